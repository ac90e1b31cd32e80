/-- the words in pieces, for the places below -/
def zt_ch (j : Nat) : List Cond := match j with
  | 0 => k2_sels lw_privs
  | 1 => tables_1_1
  | 2 => tables_1_2
  | 3 => tables_1_3
  | 4 => tables_1_4
  | 5 => tables_1_5
  | 6 => tables_1_6
  | 7 => tables_1_7
  | 8 => tables_1_8
  | _ => []
def zt_wd (i : Nat) : Option Cond := (zt_ch (i / 1000))[i % 1000]?
theorem zt_ch_in {j : Nat} {w : Cond} (h : w ∈ zt_ch j) : w ∈ lw_tbl := by
  unfold zt_ch at h
  unfold lw_tbl tables_1
  split at h
  · simp only [List.mem_append]; simp only [h, true_or, or_true]
  · simp only [List.mem_append]; simp only [h, true_or, or_true]
  · simp only [List.mem_append]; simp only [h, true_or, or_true]
  · simp only [List.mem_append]; simp only [h, true_or, or_true]
  · simp only [List.mem_append]; simp only [h, true_or, or_true]
  · simp only [List.mem_append]; simp only [h, true_or, or_true]
  · simp only [List.mem_append]; simp only [h, true_or, or_true]
  · simp only [List.mem_append]; simp only [h, true_or, or_true]
  · simp only [List.mem_append]; simp only [h, true_or, or_true]
  · cases h
/-! ===== the tables (written by wip/zx/gen_tables.py out of the claim) ===== -/
def zt_T_TJ0 : u_T := fun k => match k with
  | 0 => ("java/lang/String", "value", "[B", true)
  | 1 => ("java/lang/String", "coder", "B", true)
  | 2 => ("java/lang/String", "hash", "I", false)
  | _ => ("java/lang/String", "hashIsZero", "Z", false)
def zt_T_TJ4 : u_T := fun k => match k with
  | 0 => ("java/lang/AbstractStringBuilder", "value", "[B", false)
  | 1 => ("java/lang/AbstractStringBuilder", "coder", "B", false)
  | 2 => ("java/lang/AbstractStringBuilder", "maybeLatin1", "Z", false)
  | _ => ("java/lang/AbstractStringBuilder", "count", "I", false)
def zt_T_TX0 : u_T := fun k => match k with
  | 0 => ("ColumnVault$Checks", "copy", "LColumnVault$Sheet;", true)
  | 1 => ("ColumnVault$Checks", "parted", "LColumnVault$Groups;", true)
  | _ => ("ColumnVault$Checks", "upTo", "[J", true)
def zt_T_TX1 : u_T := fun k => match k with
  | 0 => ("ColumnVault$FilterReader", "tokens", "LColumnVault$Tokens;", true)
  | 1 => ("ColumnVault$FilterReader", "sheet", "LColumnVault$Sheet;", true)
  | 2 => ("ColumnVault$FilterReader", "keys", "[J", true)
  | 3 => ("ColumnVault$FilterReader", "many", "I", false)
  | 4 => ("ColumnVault$FilterReader", "at", "I", false)
  | 5 => ("ColumnVault$FilterReader", "faultKind", "I", false)
  | _ => ("ColumnVault$FilterReader", "faultPlace", "I", false)
def zt_T_TX2 : u_T := fun k => match k with
  | 0 => ("ColumnVault$FilterText", "bytes", "[I", true)
  | _ => ("ColumnVault$FilterText", "length", "I", false)
def zt_T_TX3 : u_T := fun k => match k with
  | 0 => ("ColumnVault$Groups", "then", "LColumnVault$Sheet;", true)
  | 1 => ("ColumnVault$Groups", "keys", "[J", true)
  | 2 => ("ColumnVault$Groups", "members", "[J", true)
  | 3 => ("ColumnVault$Groups", "column", "I", false)
  | _ => ("ColumnVault$Groups", "many", "I", false)
def zt_T_TX4 : u_T := fun k => match k with
  | 0 => ("ColumnVault$History", "sheets", "[LColumnVault$Sheet;", true)
  | _ => ("ColumnVault$History", "now", "I", false)
def zt_T_TX5 : u_T := fun k => match k with
  | 0 => ("ColumnVault$JoinWays", "left", "LColumnVault$Sheet;", true)
  | 1 => ("ColumnVault$JoinWays", "column", "I", true)
  | 2 => ("ColumnVault$JoinWays", "right", "LColumnVault$Sheet;", true)
  | _ => ("ColumnVault$JoinWays", "other", "I", true)
def zt_T_TX6 : u_T := fun k => match k with
  | 0 => ("ColumnVault$Node", "form", "I", true)
  | 1 => ("ColumnVault$Node", "holds", "J", false)
  | 2 => ("ColumnVault$Node", "firstTold", "LColumnVault$Node;", false)
  | 3 => ("ColumnVault$Node", "lastTold", "LColumnVault$Node;", false)
  | 4 => ("ColumnVault$Node", "nextTold", "LColumnVault$Node;", false)
  | 5 => ("ColumnVault$Node", "firstByCounts", "LColumnVault$Node;", false)
  | _ => ("ColumnVault$Node", "nextByCounts", "LColumnVault$Node;", false)
def zt_T_TX7 : u_T := fun k => match k with
  | 0 => ("ColumnVault$Pairs", "lefts", "[I", true)
  | 1 => ("ColumnVault$Pairs", "rights", "[I", true)
  | _ => ("ColumnVault$Pairs", "many", "I", false)
def zt_T_TX8 : u_T := fun k => match k with
  | 0 => ("ColumnVault$Sheet", "kinds", "[I", true)
  | 1 => ("ColumnVault$Sheet", "keys", "[J", true)
  | 2 => ("ColumnVault$Sheet", "order", "[I", true)
  | 3 => ("ColumnVault$Sheet", "columns", "I", false)
  | 4 => ("ColumnVault$Sheet", "rows", "I", false)
  | _ => ("ColumnVault$Sheet", "chosen", "J", false)
def zt_T_TX9 : u_T := fun k => match k with
  | 0 => ("ColumnVault$Tokens", "forms", "[I", true)
  | 1 => ("ColumnVault$Tokens", "places", "[I", true)
  | 2 => ("ColumnVault$Tokens", "values", "[J", true)
  | _ => ("ColumnVault$Tokens", "many", "I", false)
def zt_T_TX10 : u_T := fun k => match k with
  | 0 => ("ColumnVault", "history", "LColumnVault$History;", true)
  | 1 => ("ColumnVault", "text", "LColumnVault$FilterText;", true)
  | 2 => ("ColumnVault", "tokens", "LColumnVault$Tokens;", true)
  | 3 => ("ColumnVault", "pairs", "LColumnVault$Pairs;", true)
  | 4 => ("ColumnVault", "groups", "LColumnVault$Groups;", true)
  | _ => ("ColumnVault", "checks", "LColumnVault$Checks;", true)
def zt_cl : List vw_C := [("java/lang/String", zt_T_TJ0, 4), ("java/lang/StringBuilder", zt_T_TJ4, 4), ("ColumnVault$Checks", zt_T_TX0, 3), ("ColumnVault$FilterReader", zt_T_TX1, 7), ("ColumnVault$FilterText", zt_T_TX2, 2), ("ColumnVault$Groups", zt_T_TX3, 5), ("ColumnVault$History", zt_T_TX4, 2), ("ColumnVault$JoinWays", zt_T_TX5, 4), ("ColumnVault$Node", zt_T_TX6, 7), ("ColumnVault$Pairs", zt_T_TX7, 3), ("ColumnVault$Sheet", zt_T_TX8, 6), ("ColumnVault$Tokens", zt_T_TX9, 4), ("ColumnVault", zt_T_TX10, 6), ("java/lang/IndexOutOfBoundsException", fun _ => ("", "", "", false), 0), ("java/lang/IllegalArgumentException", fun _ => ("", "", "", false), 0), ("java/lang/IllegalStateException", fun _ => ("", "", "", false), 0), ("java/util/NoSuchElementException", fun _ => ("", "", "", false), 0)]
/-- the first exception class -/
def zt_x0 : Nat := 13
def zt_sz : List Nat := [4, 4, 3, 7, 2, 5, 2, 4, 7, 3, 6, 4, 6, 6, 6, 6, 6]
def zt_lay : List (List Nat) := [[5234, 5236, 5238, 6000], [5003, 5005, 5007, 5009], [1188, 1190, 1192], [3052, 3054, 3056, 3058, 3060, 3062, 3064], [1106, 1108], [1164, 1166, 1168, 1170, 1172], [1091, 1093], [8095, 8097, 8099, 8101], [3134, 3136, 3138, 3140, 3142, 3144, 3146], [1140, 1142, 1144], [1073, 1075, 1077, 1079, 1081, 1083], [1121, 1123, 1125, 1127], [1201, 1203, 1205, 1207, 1209, 1211], [], [], [], []]
/-- the places of instantiable, initialized -/
def zt_ini : List (Nat × Nat) := [(5108, 1024), (4222, 1023), (1176, 1008), (3038, 1016), (1097, 1004), (1148, 1007), (1043, 1002), (8086, 1033), (3116, 1018), (1131, 1006), (1050, 1003), (1112, 1005), (1035, 1001), (1227, 1012), (2080, 1013), (2126, 1014), (4102, 1021)]
/-- the component types of arrays, with the place of their word -/
def zt_at : List FieldType := [.object "ColumnVault$Sheet", .int, .long, .byte, .array (.long), .boolean, .object "java/lang/String"]
def zt_ath : List Nat := [1049, 1086, 1087, 2054, 6055, 6065, 8053]
/-- array types that are told to be an Object each -/
def zt_aok : List Bool := [false, false, false, false, false, false, false]
def zt_on : List String := ["java/lang/String", "java/lang/StringBuilder", "ColumnVault$Checks", "ColumnVault$FilterReader", "ColumnVault$FilterText", "ColumnVault$Groups", "ColumnVault$History", "ColumnVault$JoinWays", "ColumnVault$Node", "ColumnVault$Pairs", "ColumnVault$Sheet", "ColumnVault$Tokens", "ColumnVault", "java/lang/IndexOutOfBoundsException", "java/lang/IllegalArgumentException", "java/lang/IllegalStateException", "java/util/NoSuchElementException", "ColumnVaultLaw", "java/lang/Long", "java/lang/Math", "java/lang/AbstractStringBuilder", "java/lang/StringUTF16", "jdk/internal/util/ArraysSupport", "java/util/Arrays", "java/lang/StringLatin1", "jdk/internal/util/Preconditions", "java/lang/Integer", "jdk/internal/misc/Unsafe"]
/-- a method: name, bytes, locals, answer, table, its class's place, parameters, the place of its code's word; then the places of 'static' or 'instanceMethod', of 'selects', of 'initialized' -/
abbrev zx_M : Type := MethodName × ByteArray × Nat × Option FieldType × List (Nat × Nat × Nat × Nat) × Nat × Nat × Nat × Nat × Nat × Nat
def zt_m0 : List zx_M := [
  (⟨"ColumnVaultLaw", "law", "([I)Z"⟩, code, 4, some (.boolean), [], 17, 1, 0, 0, 99999, 0),
  (⟨"ColumnVault", "<init>", "()V"⟩, prog_1_method_1_code, 1, none, [], 12, 0, 0, 2, 99999, 0),
  (⟨"ColumnVault$History", "<init>", "()V"⟩, prog_6_method_1_code, 2, none, [], 6, 0, 0, 2, 99999, 0),
  (⟨"ColumnVault$Sheet", "<init>", "()V"⟩, prog_10_method_1_code, 1, none, [], 10, 0, 0, 2, 99999, 0),
  (⟨"ColumnVault$FilterText", "<init>", "()V"⟩, prog_4_method_1_code, 1, none, [], 4, 0, 0, 2, 99999, 0),
  (⟨"ColumnVault$Tokens", "<init>", "()V"⟩, prog_11_method_1_code, 1, none, [], 11, 0, 0, 2, 99999, 0),
  (⟨"ColumnVault$Pairs", "<init>", "()V"⟩, prog_9_method_1_code, 1, none, [], 9, 0, 0, 2, 99999, 0),
  (⟨"ColumnVault$Groups", "<init>", "()V"⟩, prog_5_method_1_code, 1, none, [], 5, 0, 0, 2, 99999, 0),
  (⟨"ColumnVault$Checks", "<init>", "()V"⟩, prog_2_method_1_code, 1, none, [], 2, 0, 0, 2, 99999, 0),
  (⟨"ColumnVault", "size", "(II)I"⟩, prog_1_method_8_code, 4, some (.int), [], 12, 2, 0, 0, 0, 0),
  (⟨"ColumnVault", "sheetOf", "(I)LColumnVault$Sheet;"⟩, prog_1_method_41_code, 3, some (.object "ColumnVault$Sheet"), [], 12, 1, 0, 0, 0, 0),
  (⟨"ColumnVault$History", "sheetIn", "(II)LColumnVault$Sheet;"⟩, prog_6_method_3_code, 3, some (.object "ColumnVault$Sheet"), [], 6, 2, 0, 0, 0, 0),
  (⟨"java/lang/Long", "bitCount", "(J)I"⟩, prog_27_method_50_code, 2, some (.int), [], 18, 1, 0, 1, 99999, 0),
  (⟨"ColumnVault$Sheet", "missingValues", "()I"⟩, prog_10_method_10_code, 3, some (.int), [], 10, 0, 0, 0, 0, 0),
  (⟨"ColumnVault$Sheet", "rowsWith", "(IJ)J"⟩, prog_10_method_24_code, 4, some (.long), [], 10, 2, 0, 0, 0, 0),
  (⟨"ColumnVault$Sheet", "rowsFromTo", "(IJJ)J"⟩, prog_10_method_25_code, 11, some (.long), [], 10, 3, 0, 0, 0, 0),
  (⟨"ColumnVault$Sheet", "keyAt", "(II)J"⟩, prog_10_method_7_code, 3, some (.long), [], 10, 2, 0, 0, 0, 0),
  (⟨"ColumnVault", "version", "()I"⟩, prog_1_method_10_code, 1, some (.int), [], 12, 0, 0, 0, 0, 0),
  (⟨"ColumnVault", "chosenShare", "(I)F"⟩, prog_1_method_40_code, 3, some (.float), [], 12, 1, 0, 0, 0, 0),
  (⟨"ColumnVaultLaw", "seed", "([I)[I"⟩, method_2_code, 3, some (.array (.int)), [], 17, 1, 0, 1, 99999, 0),
  (⟨"ColumnVaultLaw", "draw", "([II)I"⟩, method_3_code, 2, some (.int), [], 17, 2, 0, 1, 99999, 0),
  (⟨"ColumnVaultLaw", "asks", "(LColumnVault;IIIJ)J"⟩, method_9_code, 7, some (.long), [(0, 107, 316, 150), (108, 114, 316, 150), (115, 128, 316, 150), (129, 146, 316, 150), (147, 156, 316, 150), (157, 163, 316, 150), (164, 171, 316, 150), (172, 179, 316, 150), (180, 186, 316, 150), (187, 199, 316, 150), (200, 207, 316, 150), (208, 214, 316, 150), (215, 224, 316, 150), (225, 236, 316, 150), (237, 248, 316, 150), (249, 258, 316, 150), (259, 268, 316, 150), (269, 276, 316, 150), (277, 287, 316, 150), (288, 297, 316, 150), (298, 307, 316, 150), (308, 315, 316, 150), (0, 107, 322, 154), (108, 114, 322, 154), (115, 128, 322, 154), (129, 146, 322, 154), (147, 156, 322, 154), (157, 163, 322, 154), (164, 171, 322, 154), (172, 179, 322, 154), (180, 186, 322, 154), (187, 199, 322, 154), (200, 207, 322, 154), (208, 214, 322, 154), (215, 224, 322, 154), (225, 236, 322, 154), (237, 248, 322, 154), (249, 258, 322, 154), (259, 268, 322, 154), (269, 276, 322, 154), (277, 287, 322, 154), (288, 297, 322, 154), (298, 307, 322, 154), (308, 315, 322, 154), (0, 107, 328, 158), (108, 114, 328, 158), (115, 128, 328, 158), (129, 146, 328, 158), (147, 156, 328, 158), (157, 163, 328, 158), (164, 171, 328, 158), (172, 179, 328, 158), (180, 186, 328, 158), (187, 199, 328, 158), (200, 207, 328, 158), (208, 214, 328, 158), (215, 224, 328, 158), (225, 236, 328, 158), (237, 248, 328, 158), (249, 258, 328, 158), (259, 268, 328, 158), (269, 276, 328, 158), (277, 287, 328, 158), (288, 297, 328, 158), (298, 307, 328, 158), (308, 315, 328, 158), (0, 107, 334, 162), (108, 114, 334, 162), (115, 128, 334, 162), (129, 146, 334, 162), (147, 156, 334, 162), (157, 163, 334, 162), (164, 171, 334, 162), (172, 179, 334, 162), (180, 186, 334, 162), (187, 199, 334, 162), (200, 207, 334, 162), (208, 214, 334, 162), (215, 224, 334, 162), (225, 236, 334, 162), (237, 248, 334, 162), (249, 258, 334, 162), (259, 268, 334, 162), (269, 276, 334, 162), (277, 287, 334, 162), (288, 297, 334, 162), (298, 307, 334, 162), (308, 315, 334, 162)], 17, 5, 0, 1, 99999, 0),
  (⟨"ColumnVault", "addColumn", "(II)I"⟩, prog_1_method_2_code, 4, some (.int), [], 12, 2, 0, 0, 0, 0),
  (⟨"ColumnVault", "nextSheetOf", "(I)LColumnVault$Sheet;"⟩, prog_1_method_43_code, 2, some (.object "ColumnVault$Sheet"), [], 12, 1, 0, 0, 0, 0),
  (⟨"ColumnVault$History", "makeNextFrom", "(I)V"⟩, prog_6_method_4_code, 5, none, [], 6, 1, 0, 0, 0, 0),
  (⟨"ColumnVault$Sheet", "copyFrom", "(LColumnVault$Sheet;)V"⟩, prog_10_method_2_code, 2, none, [], 10, 1, 0, 0, 0, 0),
  (⟨"ColumnVault$Sheet", "appendColumn", "(I)I"⟩, prog_10_method_11_code, 4, some (.int), [], 10, 1, 0, 0, 0, 0),
  (⟨"ColumnVault$Sheet", "putKey", "(IIJ)V"⟩, prog_10_method_8_code, 5, none, [], 10, 3, 0, 0, 0, 0),
  (⟨"ColumnVault$Sheet", "hasColumn", "(I)Z"⟩, prog_10_method_3_code, 2, some (.boolean), [], 10, 1, 0, 0, 0, 0),
  (⟨"ColumnVault$Sheet", "hasRow", "(I)Z"⟩, prog_10_method_4_code, 2, some (.boolean), [], 10, 1, 0, 0, 0, 0),
  (⟨"ColumnVault", "addRow", "(I)I"⟩, prog_1_method_3_code, 2, some (.int), [], 12, 1, 0, 0, 0, 0),
  (⟨"ColumnVault$Sheet", "appendRow", "()I"⟩, prog_10_method_12_code, 3, some (.int), [], 10, 0, 0, 0, 0, 0),
  (⟨"ColumnVault", "fill", "(IIIII)I"⟩, prog_1_method_4_code, 9, some (.int), [], 12, 5, 0, 0, 0, 0),
  (⟨"ColumnVault", "sheetWith", "(II)LColumnVault$Sheet;"⟩, prog_1_method_42_code, 4, some (.object "ColumnVault$Sheet"), [], 12, 2, 0, 0, 0, 0),
  (⟨"ColumnVault", "requireColumn", "(LColumnVault$Sheet;I)V"⟩, prog_1_method_47_code, 2, none, [], 12, 2, 0, 1, 99999, 0),
  (⟨"ColumnVault$Sheet", "kindOf", "(I)I"⟩, prog_10_method_6_code, 2, some (.int), [], 10, 1, 0, 0, 0, 0),
  (⟨"ColumnVault", "isNumber", "(J)Z"⟩, prog_1_method_53_code, 2, some (.boolean), [], 12, 1, 0, 1, 99999, 0),
  (⟨"ColumnVault", "set", "(IIIJ)Z"⟩, prog_1_method_5_code, 12, some (.boolean), [], 12, 4, 0, 0, 0, 0),
  (⟨"ColumnVault", "requireRow", "(LColumnVault$Sheet;I)V"⟩, prog_1_method_48_code, 2, none, [], 12, 2, 0, 1, 99999, 0),
  (⟨"ColumnVault", "requireValue", "(IJ)V"⟩, prog_1_method_50_code, 3, none, [], 12, 2, 0, 1, 99999, 0),
  (⟨"ColumnVault", "isWord", "(J)Z"⟩, prog_1_method_54_code, 3, some (.boolean), [], 12, 1, 0, 1, 99999, 0),
  (⟨"ColumnVault", "isLetter", "(I)Z"⟩, prog_1_method_55_code, 1, some (.boolean), [], 12, 1, 0, 1, 99999, 0),
  (⟨"ColumnVault", "keyOf", "(IJ)J"⟩, prog_1_method_57_code, 6, some (.long), [], 12, 2, 0, 1, 99999, 0),
  (⟨"ColumnVault", "get", "(III)J"⟩, prog_1_method_7_code, 5, some (.long), [], 12, 3, 0, 0, 0, 0),
  (⟨"ColumnVault$Sheet", "valueOf", "(II)J"⟩, prog_10_method_9_code, 3, some (.long), [], 10, 2, 0, 0, 0, 0),
  (⟨"ColumnVault", "toldOf", "(IJ)J"⟩, prog_1_method_58_code, 6, some (.long), [], 12, 2, 0, 1, 99999, 0),
  (⟨"ColumnVault", "back", "(I)I"⟩, prog_1_method_11_code, 2, some (.int), [], 12, 1, 0, 0, 0, 0),
  (⟨"ColumnVault$History", "keeps", "(I)Z"⟩, prog_6_method_2_code, 2, some (.boolean), [], 6, 1, 0, 0, 0, 0),
  (⟨"ColumnVault", "rowAt", "(II)I"⟩, prog_1_method_13_code, 4, some (.int), [], 12, 2, 0, 0, 0, 0),
  (⟨"ColumnVault", "requirePlace", "(LColumnVault$Sheet;I)V"⟩, prog_1_method_49_code, 2, none, [], 12, 2, 0, 1, 99999, 0),
  (⟨"ColumnVault$Sheet", "rowInOrder", "(I)I"⟩, prog_10_method_15_code, 2, some (.int), [], 10, 1, 0, 0, 0, 0),
  (⟨"ColumnVault", "choose", "(II)I"⟩, prog_1_method_16_code, 6, some (.int), [], 12, 2, 0, 0, 0, 0),
  (⟨"ColumnVault", "filterOf", "(I)LColumnVault$Node;"⟩, prog_1_method_45_code, 3, some (.object "ColumnVault$Node"), [], 12, 1, 0, 0, 0, 0),
  (⟨"ColumnVault", "readerOf", "(I)LColumnVault$FilterReader;"⟩, prog_1_method_44_code, 2, some (.object "ColumnVault$FilterReader"), [], 12, 1, 0, 0, 0, 0),
  (⟨"ColumnVault$FilterReader", "<init>", "(LColumnVault$Tokens;LColumnVault$Sheet;)V"⟩, prog_3_method_1_code, 3, none, [], 3, 2, 0, 2, 99999, 0),
  (⟨"ColumnVault$FilterReader", "readWhole", "(LColumnVault$FilterText;)LColumnVault$Node;"⟩, prog_3_method_2_code, 3, some (.object "ColumnVault$Node"), [], 3, 1, 0, 0, 0, 0),
  (⟨"ColumnVault$Tokens", "readFrom", "(LColumnVault$FilterText;)V"⟩, prog_11_method_2_code, 4, none, [], 11, 1, 0, 0, 0, 0),
  (⟨"ColumnVault$FilterText", "byteAt", "(I)I"⟩, prog_4_method_2_code, 2, some (.int), [], 4, 1, 0, 0, 0, 0),
  (⟨"ColumnVault$Tokens", "readToken", "(LColumnVault$FilterText;I)I"⟩, prog_11_method_3_code, 5, some (.int), [], 11, 2, 0, 0, 0, 0),
  (⟨"ColumnVault$Tokens", "put", "(IIJ)V"⟩, prog_11_method_6_code, 5, none, [], 11, 3, 0, 0, 0, 0)]
def zt_m1 : List zx_M := [
  (⟨"ColumnVault", "isDigit", "(I)Z"⟩, prog_1_method_56_code, 1, some (.boolean), [], 12, 1, 0, 1, 99999, 0),
  (⟨"ColumnVault$Tokens", "readWord", "(LColumnVault$FilterText;I)I"⟩, prog_11_method_4_code, 6, some (.int), [], 11, 2, 0, 0, 0, 0),
  (⟨"ColumnVault$Tokens", "readNumber", "(LColumnVault$FilterText;I)I"⟩, prog_11_method_5_code, 7, some (.int), [], 11, 2, 0, 0, 0, 0),
  (⟨"java/lang/Math", "min", "(JJ)J"⟩, prog_28_method_70_code, 4, some (.long), [], 19, 2, 0, 1, 99999, 0),
  (⟨"java/lang/Math", "max", "(II)I"⟩, prog_28_method_65_code, 2, some (.int), [], 19, 2, 0, 1, 99999, 0),
  (⟨"ColumnVault$FilterReader", "readFilter", "(I)LColumnVault$Node;"⟩, prog_3_method_5_code, 6, some (.object "ColumnVault$Node"), [], 3, 1, 0, 0, 0, 0),
  (⟨"ColumnVault$Node", "<init>", "(IJ)V"⟩, prog_8_method_1_code, 4, none, [], 8, 2, 0, 2, 99999, 0),
  (⟨"ColumnVault$FilterReader", "readPart", "(I)LColumnVault$Node;"⟩, prog_3_method_6_code, 6, some (.object "ColumnVault$Node"), [], 3, 1, 0, 0, 0, 0),
  (⟨"ColumnVault$Sheet", "allRows", "()J"⟩, prog_10_method_22_code, 1, some (.long), [], 10, 0, 0, 0, 0, 0),
  (⟨"ColumnVault$FilterReader", "readPiece", "(I)LColumnVault$Node;"⟩, prog_3_method_7_code, 4, some (.object "ColumnVault$Node"), [], 3, 1, 0, 0, 0, 0),
  (⟨"ColumnVault$FilterReader", "takes", "(I)Z"⟩, prog_3_method_4_code, 2, some (.boolean), [], 3, 1, 0, 0, 0, 0),
  (⟨"ColumnVault$Tokens", "formAt", "(I)I"⟩, prog_11_method_7_code, 2, some (.int), [], 11, 1, 0, 0, 0, 0),
  (⟨"ColumnVault$Tokens", "placeAt", "(I)I"⟩, prog_11_method_8_code, 2, some (.int), [], 11, 1, 0, 0, 0, 0),
  (⟨"ColumnVault$FilterReader", "fail", "(II)LColumnVault$Node;"⟩, prog_3_method_3_code, 3, some (.object "ColumnVault$Node"), [], 3, 2, 0, 0, 0, 0),
  (⟨"ColumnVault$FilterReader", "readBrackets", "(I)LColumnVault$Node;"⟩, prog_3_method_8_code, 3, some (.object "ColumnVault$Node"), [], 3, 1, 0, 0, 0, 0),
  (⟨"ColumnVault$FilterReader", "readTest", "()LColumnVault$Node;"⟩, prog_3_method_9_code, 3, some (.object "ColumnVault$Node"), [], 3, 0, 0, 0, 0, 0),
  (⟨"ColumnVault$Tokens", "valueAt", "(I)J"⟩, prog_11_method_9_code, 2, some (.long), [], 11, 1, 0, 0, 0, 0),
  (⟨"ColumnVault$FilterReader", "askedBy", "(I)I"⟩, prog_3_method_10_code, 5, some (.int), [], 3, 1, 0, 0, 0, 0),
  (⟨"ColumnVault$FilterReader", "readValues", "(II)Z"⟩, prog_3_method_11_code, 6, some (.boolean), [], 3, 2, 0, 0, 0, 0),
  (⟨"ColumnVault$FilterReader", "isValueNext", "()Z"⟩, prog_3_method_12_code, 2, some (.boolean), [], 3, 0, 0, 0, 0, 0),
  (⟨"ColumnVault$FilterReader", "readValue", "(I)Z"⟩, prog_3_method_13_code, 6, some (.boolean), [], 3, 1, 0, 0, 0, 0),
  (⟨"ColumnVault$FilterReader", "rowsOfTest", "(II)J"⟩, prog_3_method_14_code, 6, some (.long), [], 3, 2, 0, 0, 0, 0),
  (⟨"ColumnVault$Node", "turn", "(J)V"⟩, prog_8_method_2_code, 3, none, [], 8, 1, 0, 0, 0, 0),
  (⟨"ColumnVault$Node", "put", "(LColumnVault$Node;)V"⟩, prog_8_method_3_code, 2, none, [], 8, 1, 0, 0, 0, 0),
  (⟨"ColumnVault$Node", "putByCounts", "(LColumnVault$Node;)V"⟩, prog_8_method_4_code, 4, none, [], 8, 1, 0, 0, 0, 0),
  (⟨"ColumnVault$Node", "isFirst", "(LColumnVault$Node;LColumnVault$Node;)Z"⟩, prog_8_method_5_code, 5, some (.boolean), [], 8, 2, 0, 0, 0, 0),
  (⟨"ColumnVault", "count", "(I)I"⟩, prog_1_method_18_code, 2, some (.int), [], 12, 1, 0, 0, 0, 0),
  (⟨"ColumnVault", "join", "(IIIII)I"⟩, prog_1_method_25_code, 8, some (.int), [], 12, 5, 0, 0, 0, 0),
  (⟨"ColumnVault", "requireSameKind", "(II)V"⟩, prog_1_method_52_code, 2, none, [], 12, 2, 0, 1, 99999, 0),
  (⟨"ColumnVault$Pairs", "make", "(LColumnVault$Sheet;ILColumnVault$Sheet;II)V"⟩, prog_9_method_2_code, 11, none, [], 9, 5, 0, 0, 0, 0),
  (⟨"ColumnVault", "holdsRow", "(JI)Z"⟩, prog_1_method_60_code, 3, some (.boolean), [], 12, 2, 0, 1, 99999, 0),
  (⟨"ColumnVault$Pairs", "putRow", "(IJI)V"⟩, prog_9_method_3_code, 6, none, [], 9, 3, 0, 0, 0, 0),
  (⟨"ColumnVault$Pairs", "put", "(II)V"⟩, prog_9_method_4_code, 3, none, [], 9, 2, 0, 0, 0, 0),
  (⟨"ColumnVault", "pairAt", "(IZ)I"⟩, prog_1_method_26_code, 3, some (.int), [], 12, 2, 0, 0, 0, 0),
  (⟨"ColumnVault$Pairs", "rowOf", "(IZ)I"⟩, prog_9_method_5_code, 3, some (.int), [], 9, 2, 0, 0, 0, 0),
  (⟨"ColumnVault", "groupAt", "(II)J"⟩, prog_1_method_29_code, 3, some (.long), [], 12, 2, 0, 0, 0, 0),
  (⟨"ColumnVault", "requireGroup", "(I)V"⟩, prog_1_method_46_code, 2, none, [], 12, 1, 0, 0, 0, 0),
  (⟨"ColumnVault$Groups", "valueAt", "(I)J"⟩, prog_5_method_6_code, 2, some (.long), [], 5, 1, 0, 0, 0, 0),
  (⟨"ColumnVault$Groups", "keyOfGroup", "(I)J"⟩, prog_5_method_5_code, 2, some (.long), [], 5, 1, 0, 0, 0, 0),
  (⟨"ColumnVault$Groups", "rowsIn", "(I)J"⟩, prog_5_method_7_code, 2, some (.long), [], 5, 1, 0, 0, 0, 0),
  (⟨"ColumnVault$Sheet", "firstOf", "(J)I"⟩, prog_10_method_19_code, 4, some (.int), [], 10, 1, 0, 0, 0, 0),
  (⟨"ColumnVault$Sheet", "lastOf", "(J)I"⟩, prog_10_method_20_code, 4, some (.int), [], 10, 1, 0, 0, 0, 0),
  (⟨"ColumnVault", "total", "(III)J"⟩, prog_1_method_30_code, 5, some (.long), [], 12, 3, 0, 0, 0, 0),
  (⟨"ColumnVault", "totalOf", "(LColumnVault$Sheet;IJI)J"⟩, prog_1_method_62_code, 8, some (.long), [], 12, 4, 0, 1, 99999, 0),
  (⟨"ColumnVault$Sheet", "knownRows", "(I)J"⟩, prog_10_method_23_code, 2, some (.long), [], 10, 1, 0, 0, 0, 0),
  (⟨"ColumnVault$Sheet", "sumOf", "(IJ)J"⟩, prog_10_method_27_code, 9, some (.long), [], 10, 2, 0, 0, 0, 0),
  (⟨"ColumnVault$Sheet", "risingRows", "(IJ)[I"⟩, prog_10_method_28_code, 12, some (.array (.int)), [], 10, 2, 0, 0, 0, 0),
  (⟨"ColumnVault$Sheet", "differentKeys", "(I[I)I"⟩, prog_10_method_29_code, 5, some (.int), [], 10, 2, 0, 0, 0, 0),
  (⟨"ColumnVault", "rank", "(IIII)I"⟩, prog_1_method_33_code, 8, some (.int), [], 12, 4, 0, 0, 0, 0),
  (⟨"ColumnVault", "between", "(IIJJ)I"⟩, prog_1_method_35_code, 9, some (.int), [], 12, 4, 0, 0, 0, 0),
  (⟨"ColumnVault", "nearest", "(IIJZ)J"⟩, prog_1_method_36_code, 10, some (.long), [], 12, 4, 0, 0, 0, 0),
  (⟨"ColumnVault$Sheet", "nearestKey", "(IJZ)J"⟩, prog_10_method_26_code, 11, some (.long), [], 10, 3, 0, 0, 0, 0),
  (⟨"ColumnVault", "type", "(J)I"⟩, prog_1_method_22_code, 3, some (.int), [], 12, 1, 0, 0, 0, 0),
  (⟨"ColumnVault", "bytesIn", "(J)I"⟩, prog_1_method_61_code, 4, some (.int), [], 12, 1, 0, 1, 99999, 0),
  (⟨"ColumnVault$FilterText", "appendBytes", "(J)V"⟩, prog_4_method_4_code, 4, none, [], 4, 1, 0, 0, 0, 0),
  (⟨"ColumnVault$FilterText", "append", "(I)V"⟩, prog_4_method_3_code, 2, none, [], 4, 1, 0, 0, 0, 0),
  (⟨"ColumnVault", "alike", "(III)I"⟩, prog_1_method_37_code, 6, some (.int), [], 12, 3, 0, 0, 0, 0),
  (⟨"ColumnVault$Sheet", "hasKindsOf", "(LColumnVault$Sheet;)Z"⟩, prog_10_method_5_code, 4, some (.boolean), [], 10, 1, 0, 0, 0, 0),
  (⟨"ColumnVault$Sheet", "rowsLeftBy", "(LColumnVault$Sheet;)I"⟩, prog_10_method_34_code, 7, some (.int), [], 10, 1, 0, 0, 0, 0),
  (⟨"ColumnVault$Sheet", "chosenAlike", "(ILColumnVault$Sheet;)J"⟩, prog_10_method_31_code, 6, some (.long), [], 10, 2, 0, 0, 0, 0)]
def zt_m2 : List zx_M := [
  (⟨"ColumnVault$Sheet", "isAlike", "(ILColumnVault$Sheet;I)Z"⟩, prog_10_method_30_code, 5, some (.boolean), [], 10, 3, 0, 0, 0, 0),
  (⟨"ColumnVault$Sheet", "differentRows", "()J"⟩, prog_10_method_32_code, 4, some (.long), [], 10, 0, 0, 0, 0, 0),
  (⟨"ColumnVault$Sheet", "differentRowsOnlyHere", "(LColumnVault$Sheet;)I"⟩, prog_10_method_33_code, 6, some (.int), [], 10, 1, 0, 0, 0, 0),
  (⟨"ColumnVault", "groupTotal", "(III)J"⟩, prog_1_method_31_code, 4, some (.long), [], 12, 3, 0, 0, 0, 0),
  (⟨"ColumnVault", "running", "(III)J"⟩, prog_1_method_32_code, 5, some (.long), [], 12, 3, 0, 0, 0, 0),
  (⟨"ColumnVault", "requireNumbers", "(LColumnVault$Sheet;I)V"⟩, prog_1_method_51_code, 2, none, [], 12, 2, 0, 1, 99999, 0),
  (⟨"ColumnVault$Sheet", "rowsUpTo", "(I)J"⟩, prog_10_method_21_code, 5, some (.long), [], 10, 1, 0, 0, 0, 0),
  (⟨"ColumnVaultLaw", "draws", "(LColumnVault;[III)V"⟩, method_10_code, 9, none, [], 17, 4, 0, 1, 99999, 0),
  (⟨"ColumnVault", "kind", "(II)I"⟩, prog_1_method_9_code, 3, some (.int), [], 12, 2, 0, 0, 0, 0),
  (⟨"ColumnVaultLaw", "value", "([II)J"⟩, method_7_code, 2, some (.long), [], 17, 2, 0, 1, 99999, 0),
  (⟨"ColumnVaultLaw", "text", "([I)Ljava/lang/String;"⟩, method_4_code, 3, some (.object "java/lang/String"), [], 17, 1, 0, 1, 99999, 0),
  (⟨"java/lang/StringBuilder", "<init>", "()V"⟩, prog_32_method_1_code, 1, none, [], 1, 0, 0, 2, 99999, 0),
  (⟨"java/lang/AbstractStringBuilder", "<init>", "(I)V"⟩, prog_17_method_2_code, 2, none, [], 20, 1, 0, 2, 99999, 0),
  (⟨"java/lang/StringUTF16", "newBytesFor", "(I)[B"⟩, prog_34_method_2_code, 1, some (.array (.byte)), [], 21, 1, 0, 1, 99999, 0),
  (⟨"java/lang/StringUTF16", "newBytesLength", "(I)I"⟩, prog_34_method_3_code, 1, some (.int), [], 21, 1, 0, 1, 99999, 0),
  (⟨"java/lang/StringBuilder", "append", "(C)Ljava/lang/StringBuilder;"⟩, prog_32_method_14_code, 2, some (.object "java/lang/StringBuilder"), [], 1, 1, 0, 0, 0, 0),
  (⟨"java/lang/AbstractStringBuilder", "append", "(C)Ljava/lang/AbstractStringBuilder;"⟩, prog_17_method_31_code, 2, some (.object "java/lang/AbstractStringBuilder"), [], 20, 1, 0, 0, 99999, 0),
  (⟨"java/lang/AbstractStringBuilder", "ensureCapacityInternal", "(I)V"⟩, prog_17_method_9_code, 3, none, [], 20, 1, 0, 0, 99999, 0),
  (⟨"java/lang/AbstractStringBuilder", "newCapacity", "(I)I"⟩, prog_17_method_10_code, 6, some (.int), [], 20, 1, 0, 0, 99999, 0),
  (⟨"jdk/internal/util/ArraysSupport", "newLength", "(III)I"⟩, prog_43_method_27_code, 4, some (.int), [], 22, 3, 0, 1, 99999, 0),
  (⟨"jdk/internal/util/ArraysSupport", "hugeLength", "(II)I"⟩, prog_43_method_28_code, 3, some (.int), [], 22, 2, 0, 1, 99999, 0),
  (⟨"java/util/Arrays", "copyOf", "([BI)[B"⟩, prog_39_method_121_code, 3, some (.array (.byte)), [], 23, 2, 0, 1, 99999, 0),
  (⟨"java/lang/Math", "min", "(II)I"⟩, prog_28_method_69_code, 2, some (.int), [], 19, 2, 0, 1, 99999, 0),
  (⟨"java/lang/AbstractStringBuilder", "isLatin1", "()Z"⟩, prog_17_method_68_code, 1, some (.boolean), [], 20, 0, 0, 0, 99999, 0),
  (⟨"java/lang/StringLatin1", "canEncode", "(C)Z"⟩, prog_33_method_3_code, 1, some (.boolean), [], 24, 1, 0, 1, 99999, 0),
  (⟨"java/lang/AbstractStringBuilder", "inflate", "()V"⟩, prog_17_method_11_code, 2, none, [], 20, 0, 0, 0, 99999, 0),
  (⟨"java/lang/StringLatin1", "inflate", "([BI[BII)V"⟩, prog_33_method_50_code, 5, none, [], 24, 5, 0, 1, 99999, 0),
  (⟨"java/lang/StringUTF16", "inflate", "([BI[BII)V"⟩, prog_34_method_86_code, 6, none, [], 21, 5, 0, 1, 99999, 0),
  (⟨"java/lang/StringUTF16", "checkBoundsOffCount", "(II[B)V"⟩, prog_34_method_94_code, 3, none, [], 21, 3, 0, 1, 99999, 0),
  (⟨"java/lang/StringUTF16", "length", "([B)I"⟩, prog_34_method_6_code, 1, some (.int), [], 21, 1, 0, 1, 99999, 0),
  (⟨"java/lang/String", "checkBoundsOffCount", "(III)I"⟩, prog_31_method_157_code, 3, some (.int), [], 0, 3, 0, 1, 99999, 0),
  (⟨"jdk/internal/util/Preconditions", "checkFromIndexSize", "(IIILjava/util/function/BiFunction;)I"⟩, prog_44_method_13_code, 4, some (.int), [], 25, 4, 0, 1, 99999, 0),
  (⟨"java/lang/StringUTF16", "putChar", "([BII)V"⟩, prog_34_method_4_code, 3, none, [], 21, 3, 0, 1, 99999, 0),
  (⟨"java/lang/StringUTF16", "putCharSB", "([BII)V"⟩, prog_34_method_71_code, 3, none, [], 21, 3, 0, 1, 99999, 0),
  (⟨"java/lang/StringUTF16", "checkIndex", "(I[B)V"⟩, prog_34_method_91_code, 2, none, [], 21, 2, 0, 1, 99999, 0),
  (⟨"java/lang/String", "checkIndex", "(II)V"⟩, prog_31_method_155_code, 2, none, [], 0, 2, 0, 1, 99999, 0),
  (⟨"jdk/internal/util/Preconditions", "checkIndex", "(IILjava/util/function/BiFunction;)I"⟩, prog_44_method_11_code, 3, some (.int), [], 25, 3, 0, 1, 99999, 0),
  (⟨"java/lang/StringBuilder", "toString", "()Ljava/lang/String;"⟩, prog_32_method_42_code, 1, some (.object "java/lang/String"), [], 1, 0, 0, 0, 0, 0),
  (⟨"java/lang/String", "<init>", "(Ljava/lang/StringBuilder;)V"⟩, prog_31_method_53_code, 2, none, [], 0, 1, 0, 2, 99999, 0),
  (⟨"java/lang/String", "<init>", "(Ljava/lang/AbstractStringBuilder;Ljava/lang/Void;)V"⟩, prog_31_method_150_code, 5, none, [], 0, 2, 0, 2, 99999, 0),
  (⟨"java/lang/AbstractStringBuilder", "getValue", "()[B"⟩, prog_17_method_64_code, 1, some (.array (.byte)), [], 20, 0, 0, 0, 99999, 0),
  (⟨"java/lang/StringBuilder", "length", "()I"⟩, prog_32_method_93_code, 1, some (.int), [], 1, 0, 0, 0, 0, 0),
  (⟨"java/lang/AbstractStringBuilder", "length", "()I"⟩, prog_17_method_6_code, 1, some (.int), [], 20, 0, 0, 0, 99999, 0),
  (⟨"java/util/Arrays", "copyOfRange", "([BII)[B"⟩, prog_39_method_132_code, 3, some (.array (.byte)), [], 23, 3, 0, 1, 99999, 0),
  (⟨"java/util/Arrays", "copyOfRangeByte", "([BII)[B"⟩, prog_39_method_133_code, 5, some (.array (.byte)), [], 23, 3, 0, 1, 99999, 0),
  (⟨"java/util/Arrays", "checkLength", "(II)V"⟩, prog_39_method_131_code, 2, none, [], 23, 2, 0, 1, 99999, 0),
  (⟨"java/lang/StringBuilder", "append", "(I)Ljava/lang/StringBuilder;"⟩, prog_32_method_15_code, 2, some (.object "java/lang/StringBuilder"), [], 1, 1, 0, 0, 0, 0),
  (⟨"java/lang/AbstractStringBuilder", "append", "(I)Ljava/lang/AbstractStringBuilder;"⟩, prog_17_method_32_code, 4, some (.object "java/lang/AbstractStringBuilder"), [], 20, 1, 0, 0, 99999, 0),
  (⟨"java/lang/Integer", "stringSize", "(I)I"⟩, prog_26_method_13_code, 4, some (.int), [], 26, 1, 0, 1, 99999, 0),
  (⟨"java/lang/Integer", "getChars", "(II[B)I"⟩, prog_26_method_12_code, 7, some (.int), [], 26, 3, 0, 1, 99999, 0),
  (⟨"java/lang/StringUTF16", "getChars", "(III[B)I"⟩, prog_34_method_77_code, 5, some (.int), [], 21, 4, 0, 1, 99999, 0),
  (⟨"java/lang/StringUTF16", "checkBoundsBeginEnd", "(II[B)V"⟩, prog_34_method_93_code, 3, none, [], 21, 3, 0, 1, 99999, 0),
  (⟨"java/lang/String", "checkBoundsBeginEnd", "(III)V"⟩, prog_31_method_158_code, 3, none, [], 0, 3, 0, 1, 99999, 0),
  (⟨"jdk/internal/util/Preconditions", "checkFromToIndex", "(IIILjava/util/function/BiFunction;)I"⟩, prog_44_method_12_code, 4, some (.int), [], 25, 4, 0, 1, 99999, 0),
  (⟨"java/lang/StringUTF16", "getChars", "(II[B)I"⟩, prog_34_method_89_code, 7, some (.int), [], 21, 3, 0, 1, 99999, 0),
  (⟨"java/lang/StringBuilder", "append", "(Ljava/lang/String;)Ljava/lang/StringBuilder;"⟩, prog_32_method_7_code, 2, some (.object "java/lang/StringBuilder"), [], 1, 1, 0, 0, 0, 0),
  (⟨"java/lang/AbstractStringBuilder", "append", "(Ljava/lang/String;)Ljava/lang/AbstractStringBuilder;"⟩, prog_17_method_22_code, 3, some (.object "java/lang/AbstractStringBuilder"), [], 20, 1, 0, 0, 99999, 0),
  (⟨"java/lang/AbstractStringBuilder", "appendNull", "()Ljava/lang/AbstractStringBuilder;"⟩, prog_17_method_26_code, 3, some (.object "java/lang/AbstractStringBuilder"), [], 20, 0, 0, 0, 99999, 0),
  (⟨"java/lang/StringUTF16", "putCharsAt", "([BICCCC)I"⟩, prog_34_method_81_code, 7, some (.int), [], 21, 6, 0, 1, 99999, 0),
  (⟨"java/lang/String", "length", "()I"⟩, prog_31_method_54_code, 1, some (.int), [], 0, 0, 0, 0, 0, 0)]
def zt_m3 : List zx_M := [
  (⟨"java/lang/String", "coder", "()B"⟩, prog_31_method_152_code, 1, some (.byte), [], 0, 0, 0, 0, 0, 0),
  (⟨"java/lang/AbstractStringBuilder", "putStringAt", "(ILjava/lang/String;)V"⟩, prog_17_method_73_code, 3, none, [], 20, 2, 0, 0, 99999, 0),
  (⟨"java/lang/AbstractStringBuilder", "inflateIfNeededFor", "(Ljava/lang/String;)V"⟩, prog_17_method_71_code, 2, none, [], 20, 1, 0, 0, 99999, 0),
  (⟨"java/lang/String", "getBytes", "([BIB)V"⟩, prog_31_method_147_code, 4, none, [], 0, 3, 0, 0, 0, 0),
  (⟨"java/lang/StringUTF16", "compress", "([BII)[B"⟩, prog_34_method_17_code, 6, some (.array (.byte)), [], 21, 3, 0, 1, 99999, 0),
  (⟨"java/lang/StringUTF16", "compress", "([BI[BII)I"⟩, prog_34_method_22_code, 7, some (.int), [], 21, 5, 0, 1, 99999, 0),
  (⟨"java/lang/StringUTF16", "getChar", "([BI)C"⟩, prog_34_method_5_code, 2, some (.char), [], 21, 2, 0, 1, 99999, 0),
  (⟨"java/lang/StringUTF16", "coderFromArrayLen", "([BI)B"⟩, prog_34_method_15_code, 2, some (.byte), [], 21, 2, 0, 1, 99999, 0),
  (⟨"ColumnVaultLaw", "code", "(Ljava/lang/String;)J"⟩, method_5_code, 4, some (.long), [], 17, 1, 0, 1, 99999, 0),
  (⟨"java/lang/String", "charAt", "(I)C"⟩, prog_31_method_56_code, 2, some (.char), [], 0, 1, 0, 0, 0, 0),
  (⟨"java/lang/String", "isLatin1", "()Z"⟩, prog_31_method_154_code, 1, some (.boolean), [], 0, 0, 0, 0, 0, 0),
  (⟨"java/lang/StringLatin1", "charAt", "([BI)C"⟩, prog_33_method_2_code, 2, some (.char), [], 24, 2, 0, 1, 99999, 0),
  (⟨"java/lang/StringUTF16", "charAt", "([BI)C"⟩, prog_34_method_83_code, 2, some (.char), [], 21, 2, 0, 1, 99999, 0),
  (⟨"ColumnVault", "remove", "(II)I"⟩, prog_1_method_6_code, 4, some (.int), [], 12, 2, 0, 0, 0, 0),
  (⟨"ColumnVault$Sheet", "dropRow", "(I)V"⟩, prog_10_method_13_code, 4, none, [], 10, 1, 0, 0, 0, 0),
  (⟨"ColumnVault$Sheet", "dropFromOrder", "(I)V"⟩, prog_10_method_14_code, 5, none, [], 10, 1, 0, 0, 0, 0),
  (⟨"ColumnVaultLaw", "isRemoved", "(LColumnVault;[II)Z"⟩, method_16_code, 13, some (.boolean), [], 17, 3, 0, 1, 99999, 0),
  (⟨"ColumnVaultLaw", "order", "(LColumnVault;I)[I"⟩, method_12_code, 4, some (.array (.int)), [], 17, 2, 0, 1, 99999, 0),
  (⟨"ColumnVaultLaw", "choice", "(LColumnVault;I)[Z"⟩, method_13_code, 4, some (.array (.boolean)), [], 17, 2, 0, 1, 99999, 0),
  (⟨"ColumnVault", "isChosen", "(II)Z"⟩, prog_1_method_15_code, 4, some (.boolean), [], 12, 2, 0, 0, 0, 0),
  (⟨"ColumnVaultLaw", "rows", "(LColumnVault;I)[[J"⟩, method_11_code, 5, some (.array (.array (.long))), [], 17, 2, 0, 1, 99999, 0),
  (⟨"ColumnVault", "placeOf", "(II)I"⟩, prog_1_method_14_code, 4, some (.int), [], 12, 2, 0, 0, 0, 0),
  (⟨"ColumnVault$Sheet", "placeInOrder", "(I)I"⟩, prog_10_method_16_code, 3, some (.int), [], 10, 1, 0, 0, 0, 0),
  (⟨"ColumnVaultLaw", "isSorted", "(LColumnVault;[II)Z"⟩, method_17_code, 19, some (.boolean), [], 17, 3, 0, 1, 99999, 0),
  (⟨"ColumnVault", "sort", "(IIZZ)I"⟩, prog_1_method_12_code, 7, some (.int), [], 12, 4, 0, 0, 0, 0),
  (⟨"ColumnVault$Sheet", "orderBy", "(IZZ)V"⟩, prog_10_method_18_code, 9, none, [], 10, 3, 0, 0, 0, 0),
  (⟨"ColumnVault", "isAhead", "(JJZZ)Z"⟩, prog_1_method_59_code, 6, some (.boolean), [], 12, 4, 0, 1, 99999, 0),
  (⟨"ColumnVault$Sheet", "placesUnlike", "(LColumnVault$Sheet;)I"⟩, prog_10_method_17_code, 4, some (.int), [], 10, 1, 0, 0, 0, 0),
  (⟨"ColumnVaultLaw", "than", "(IJJ)I"⟩, method_8_code, 5, some (.int), [], 17, 3, 0, 1, 99999, 0),
  (⟨"ColumnVaultLaw", "word", "(J)Ljava/lang/String;"⟩, method_6_code, 5, some (.object "java/lang/String"), [], 17, 1, 0, 1, 99999, 0),
  (⟨"java/lang/StringBuilder", "insert", "(IC)Ljava/lang/StringBuilder;"⟩, prog_32_method_30_code, 3, some (.object "java/lang/StringBuilder"), [], 1, 2, 0, 0, 0, 0),
  (⟨"java/lang/AbstractStringBuilder", "insert", "(IC)Ljava/lang/AbstractStringBuilder;"⟩, prog_17_method_51_code, 3, some (.object "java/lang/AbstractStringBuilder"), [], 20, 2, 0, 0, 99999, 0),
  (⟨"java/lang/String", "checkOffset", "(II)V"⟩, prog_31_method_156_code, 2, none, [], 0, 2, 0, 1, 99999, 0),
  (⟨"java/lang/AbstractStringBuilder", "shift", "(II)V"⟩, prog_17_method_43_code, 3, none, [], 20, 2, 0, 0, 99999, 0),
  (⟨"java/lang/String", "compareTo", "(Ljava/lang/String;)I"⟩, prog_31_method_71_code, 5, some (.int), [], 0, 1, 0, 0, 0, 0),
  (⟨"java/lang/StringLatin1", "compareTo", "([B[B)I"⟩, prog_33_method_14_code, 4, some (.int), [], 24, 2, 0, 1, 99999, 0),
  (⟨"java/lang/StringLatin1", "compareTo", "([B[BII)I"⟩, prog_33_method_15_code, 6, some (.int), [], 24, 4, 0, 1, 99999, 0),
  (⟨"jdk/internal/util/ArraysSupport", "mismatch", "([B[BI)I"⟩, prog_43_method_13_code, 4, some (.int), [], 22, 3, 0, 1, 99999, 0),
  (⟨"jdk/internal/util/ArraysSupport", "vectorizedMismatch", "(Ljava/lang/Object;JLjava/lang/Object;JII)I"⟩, prog_43_method_3_code, 19, some (.int), [], 22, 6, 0, 1, 99999, 0),
  (⟨"jdk/internal/misc/Unsafe", "getLongUnaligned", "(Ljava/lang/Object;J)J"⟩, prog_41_method_334_code, 4, some (.long), [], 27, 2, 0, 0, 0, 0),
  (⟨"jdk/internal/misc/Unsafe", "makeLong", "(II)J"⟩, prog_41_method_353_code, 2, some (.long), [], 27, 2, 0, 1, 99999, 0),
  (⟨"jdk/internal/misc/Unsafe", "toUnsignedLong", "(I)J"⟩, prog_41_method_370_code, 1, some (.long), [], 27, 1, 0, 1, 99999, 0),
  (⟨"jdk/internal/misc/Unsafe", "pickPos", "(II)I"⟩, prog_41_method_350_code, 2, some (.int), [], 27, 2, 0, 1, 99999, 0),
  (⟨"jdk/internal/misc/Unsafe", "makeLong", "(SSSS)J"⟩, prog_41_method_352_code, 4, some (.long), [], 27, 4, 0, 1, 99999, 0),
  (⟨"jdk/internal/misc/Unsafe", "toUnsignedLong", "(S)J"⟩, prog_41_method_369_code, 1, some (.long), [], 27, 1, 0, 1, 99999, 0),
  (⟨"jdk/internal/misc/Unsafe", "makeLong", "(BBBBBBBB)J"⟩, prog_41_method_351_code, 8, some (.long), [], 27, 8, 0, 1, 99999, 0),
  (⟨"jdk/internal/misc/Unsafe", "toUnsignedLong", "(B)J"⟩, prog_41_method_368_code, 1, some (.long), [], 27, 1, 0, 1, 99999, 0),
  (⟨"java/lang/Long", "numberOfLeadingZeros", "(J)I"⟩, prog_27_method_48_code, 3, some (.int), [], 18, 1, 0, 1, 99999, 0),
  (⟨"java/lang/Integer", "numberOfLeadingZeros", "(I)I"⟩, prog_26_method_47_code, 2, some (.int), [], 26, 1, 0, 1, 99999, 0),
  (⟨"java/lang/Long", "numberOfTrailingZeros", "(J)I"⟩, prog_27_method_49_code, 3, some (.int), [], 18, 1, 0, 1, 99999, 0),
  (⟨"java/lang/Integer", "numberOfTrailingZeros", "(I)I"⟩, prog_26_method_48_code, 2, some (.int), [], 26, 1, 0, 1, 99999, 0),
  (⟨"jdk/internal/misc/Unsafe", "getIntUnaligned", "(Ljava/lang/Object;J)I"⟩, prog_41_method_336_code, 4, some (.int), [], 27, 2, 0, 0, 0, 0),
  (⟨"jdk/internal/misc/Unsafe", "makeInt", "(SS)I"⟩, prog_41_method_354_code, 2, some (.int), [], 27, 2, 0, 1, 99999, 0),
  (⟨"jdk/internal/misc/Unsafe", "toUnsignedInt", "(S)I"⟩, prog_41_method_367_code, 1, some (.int), [], 27, 1, 0, 1, 99999, 0),
  (⟨"jdk/internal/misc/Unsafe", "makeInt", "(BBBB)I"⟩, prog_41_method_355_code, 4, some (.int), [], 27, 4, 0, 1, 99999, 0),
  (⟨"jdk/internal/misc/Unsafe", "toUnsignedInt", "(B)I"⟩, prog_41_method_366_code, 1, some (.int), [], 27, 1, 0, 1, 99999, 0),
  (⟨"java/lang/StringLatin1", "getChar", "([BI)C"⟩, prog_33_method_44_code, 2, some (.char), [], 24, 2, 0, 1, 99999, 0),
  (⟨"java/lang/StringUTF16", "compareTo", "([B[B)I"⟩, prog_34_method_29_code, 4, some (.int), [], 21, 2, 0, 1, 99999, 0),
  (⟨"java/lang/StringUTF16", "compareValues", "([B[BII)I"⟩, prog_34_method_31_code, 8, some (.int), [], 21, 4, 0, 1, 99999, 0),
  (⟨"java/lang/StringLatin1", "compareToUTF16", "([B[B)I"⟩, prog_33_method_16_code, 4, some (.int), [], 24, 2, 0, 1, 99999, 0)]
def zt_m4 : List zx_M := [
  (⟨"java/lang/StringLatin1", "length", "([B)I"⟩, prog_33_method_5_code, 1, some (.int), [], 24, 1, 0, 1, 99999, 0),
  (⟨"java/lang/StringLatin1", "compareToUTF16Values", "([B[BII)I"⟩, prog_33_method_18_code, 8, some (.int), [], 24, 4, 0, 1, 99999, 0),
  (⟨"java/lang/StringUTF16", "compareToLatin1", "([B[B)I"⟩, prog_34_method_32_code, 2, some (.int), [], 21, 2, 0, 1, 99999, 0),
  (⟨"java/lang/Integer", "signum", "(I)I"⟩, prog_26_method_56_code, 1, some (.int), [], 26, 1, 0, 1, 99999, 0),
  (⟨"java/lang/Long", "compare", "(JJ)I"⟩, prog_27_method_42_code, 4, some (.int), [], 18, 2, 0, 1, 99999, 0),
  (⟨"ColumnVault", "errors", "(I)I"⟩, prog_1_method_38_code, 2, some (.int), [], 12, 1, 0, 0, 0, 0),
  (⟨"ColumnVault$Checks", "failuresOf", "(LColumnVault$Sheet;)I"⟩, prog_2_method_2_code, 5, some (.int), [], 2, 1, 0, 0, 0, 0),
  (⟨"ColumnVault$Checks", "isInBothOrders", "(LColumnVault$Sheet;II)Z"⟩, prog_2_method_3_code, 5, some (.boolean), [], 2, 3, 0, 0, 0, 0),
  (⟨"ColumnVault$Checks", "standsAhead", "(LColumnVault$Sheet;IIII)Z"⟩, prog_2_method_4_code, 10, some (.boolean), [], 2, 5, 0, 0, 0, 0),
  (⟨"ColumnVault$Checks", "groupFailures", "(LColumnVault$Sheet;I)I"⟩, prog_2_method_5_code, 6, some (.int), [], 2, 2, 0, 0, 0, 0),
  (⟨"ColumnVault$Groups", "make", "(LColumnVault$Sheet;I)V"⟩, prog_5_method_2_code, 4, none, [], 5, 2, 0, 0, 0, 0),
  (⟨"ColumnVault$Groups", "put", "(I)V"⟩, prog_5_method_3_code, 5, none, [], 5, 1, 0, 0, 0, 0),
  (⟨"ColumnVault$Groups", "open", "(IJ)V"⟩, prog_5_method_4_code, 5, none, [], 5, 2, 0, 0, 0, 0),
  (⟨"ColumnVault$Checks", "sumOfGroups", "(I)J"⟩, prog_2_method_6_code, 5, some (.long), [], 2, 1, 0, 0, 0, 0),
  (⟨"ColumnVault$Checks", "rangeFailures", "(LColumnVault$Sheet;I)I"⟩, prog_2_method_7_code, 5, some (.int), [], 2, 2, 0, 0, 0, 0),
  (⟨"ColumnVault$Checks", "failuresFrom", "(IJ)I"⟩, prog_2_method_8_code, 7, some (.int), [], 2, 2, 0, 0, 0, 0),
  (⟨"ColumnVaultLaw", "isFilter", "(LColumnVault;[II)Z"⟩, method_23_code, 12, some (.boolean), [], 17, 3, 0, 1, 99999, 0),
  (⟨"java/lang/StringBuilder", "<init>", "(Ljava/lang/String;)V"⟩, prog_32_method_3_code, 2, none, [], 1, 1, 0, 2, 99999, 0),
  (⟨"java/lang/AbstractStringBuilder", "<init>", "(Ljava/lang/String;)V"⟩, prog_17_method_3_code, 5, none, [], 20, 1, 0, 2, 99999, 0),
  (⟨"java/lang/StringBuilder", "append", "(Ljava/lang/String;)Ljava/lang/AbstractStringBuilder;"⟩, prog_32_method_80_code, 2, some (.object "java/lang/AbstractStringBuilder"), [], 1, 1, 0, 0, 99999, 0),
  (⟨"ColumnVaultLaw", "filter", "([ILColumnVault;ILjava/lang/StringBuilder;I[I)[Z"⟩, method_20_code, 13, some (.array (.boolean)), [], 17, 6, 0, 1, 99999, 0),
  (⟨"ColumnVaultLaw", "piece", "([ILColumnVault;ILjava/lang/StringBuilder;I[I)[Z"⟩, method_19_code, 10, some (.array (.boolean)), [], 17, 6, 0, 1, 99999, 0),
  (⟨"ColumnVaultLaw", "test", "([ILColumnVault;ILjava/lang/StringBuilder;[I)[Z"⟩, method_18_code, 16, some (.array (.boolean)), [], 17, 5, 0, 1, 99999, 0),
  (⟨"java/lang/StringBuilder", "append", "(J)Ljava/lang/StringBuilder;"⟩, prog_32_method_16_code, 3, some (.object "java/lang/StringBuilder"), [], 1, 1, 0, 0, 0, 0),
  (⟨"java/lang/AbstractStringBuilder", "append", "(J)Ljava/lang/AbstractStringBuilder;"⟩, prog_17_method_33_code, 5, some (.object "java/lang/AbstractStringBuilder"), [], 20, 1, 0, 0, 99999, 0),
  (⟨"java/lang/Long", "stringSize", "(J)I"⟩, prog_27_method_15_code, 6, some (.int), [], 18, 1, 0, 1, 99999, 0),
  (⟨"java/lang/Long", "getChars", "(JI[B)I"⟩, prog_27_method_14_code, 11, some (.int), [], 18, 3, 0, 1, 99999, 0),
  (⟨"java/lang/StringUTF16", "getChars", "(JII[B)I"⟩, prog_34_method_78_code, 6, some (.int), [], 21, 4, 0, 1, 99999, 0),
  (⟨"java/lang/StringUTF16", "getChars", "(JI[B)I"⟩, prog_34_method_90_code, 11, some (.int), [], 21, 3, 0, 1, 99999, 0),
  (⟨"ColumnVaultLaw", "says", "(LColumnVault;Ljava/lang/CharSequence;)V"⟩, method_21_code, 5, none, [], 17, 2, 0, 1, 99999, 0),
  (⟨"ColumnVault", "clearText", "()I"⟩, prog_1_method_23_code, 2, some (.int), [], 12, 0, 0, 0, 0, 0),
  (⟨"java/lang/StringBuilder", "charAt", "(I)C"⟩, prog_32_method_88_code, 2, some (.char), [], 1, 1, 0, 0, 99999, 0),
  (⟨"java/lang/AbstractStringBuilder", "charAt", "(I)C"⟩, prog_17_method_14_code, 5, some (.char), [], 20, 1, 0, 0, 99999, 0),
  (⟨"ColumnVault", "errorKind", "(I)I"⟩, prog_1_method_20_code, 3, some (.int), [], 12, 1, 0, 0, 0, 0),
  (⟨"ColumnVault", "errorPlace", "(I)I"⟩, prog_1_method_21_code, 3, some (.int), [], 12, 1, 0, 0, 0, 0),
  (⟨"ColumnVaultLaw", "size", "([Z)I"⟩, method_14_code, 6, some (.int), [], 17, 1, 0, 1, 99999, 0),
  (⟨"ColumnVault", "reads", "(IZ)I"⟩, prog_1_method_19_code, 3, some (.int), [], 12, 2, 0, 0, 0, 0),
  (⟨"ColumnVault", "readsOf", "(LColumnVault$Node;JZI)I"⟩, prog_1_method_63_code, 9, some (.int), [], 12, 4, 0, 1, 99999, 0),
  (⟨"ColumnVaultLaw", "same", "([Z[Z)Z"⟩, method_22_code, 4, some (.boolean), [], 17, 2, 0, 1, 99999, 0),
  (⟨"java/lang/StringBuilder", "append", "(Ljava/lang/Object;)Ljava/lang/StringBuilder;"⟩, prog_32_method_6_code, 2, some (.object "java/lang/StringBuilder"), [], 1, 1, 0, 0, 0, 0),
  (⟨"java/lang/String", "valueOf", "(Ljava/lang/Object;)Ljava/lang/String;"⟩, prog_31_method_133_code, 1, some (.object "java/lang/String"), [], 0, 1, 0, 1, 99999, 0),
  (⟨"java/lang/String", "toString", "()Ljava/lang/String;"⟩, prog_31_method_126_code, 1, some (.object "java/lang/String"), [], 0, 0, 0, 0, 99999, 0),
  (⟨"ColumnVault", "turnChoice", "(I)I"⟩, prog_1_method_17_code, 3, some (.int), [], 12, 1, 0, 0, 0, 0),
  (⟨"ColumnVaultLaw", "isWrong", "(LColumnVault;[II)Z"⟩, method_24_code, 11, some (.boolean), [], 17, 3, 0, 1, 99999, 0),
  (⟨"ColumnVaultLaw", "isJoined", "(LColumnVault;[III)Z"⟩, method_25_code, 14, some (.boolean), [], 17, 4, 0, 1, 99999, 0),
  (⟨"ColumnVault", "joinErrors", "(IIII)I"⟩, prog_1_method_27_code, 7, some (.int), [], 12, 4, 0, 0, 0, 0),
  (⟨"ColumnVault$JoinWays", "<init>", "(LColumnVault$Sheet;ILColumnVault$Sheet;I)V"⟩, prog_7_method_1_code, 5, none, [], 7, 4, 0, 2, 99999, 0),
  (⟨"ColumnVault$JoinWays", "pairsNotToldByAll", "()I"⟩, prog_7_method_2_code, 9, some (.int), [], 7, 0, 0, 0, 0, 0),
  (⟨"ColumnVault$JoinWays", "byMerging", "([I[I)[J"⟩, prog_7_method_3_code, 9, some (.array (.long)), [], 7, 2, 0, 0, 0, 0),
  (⟨"ColumnVault$JoinWays", "rowsWithKeyFrom", "([IIJ)J"⟩, prog_7_method_6_code, 8, some (.long), [], 7, 3, 0, 0, 0, 0),
  (⟨"ColumnVault$JoinWays", "byLookingUp", "([I)[J"⟩, prog_7_method_4_code, 6, some (.array (.long)), [], 7, 1, 0, 0, 0, 0),
  (⟨"ColumnVault$JoinWays", "firstPlaceOf", "([IJ)I"⟩, prog_7_method_5_code, 8, some (.int), [], 7, 2, 0, 0, 0, 0),
  (⟨"ColumnVault$JoinWays", "byTrying", "()[J"⟩, prog_7_method_7_code, 6, some (.array (.long)), [], 7, 0, 0, 0, 0, 0),
  (⟨"ColumnVaultLaw", "isGrouped", "(LColumnVault;[II)Z"⟩, method_26_code, 23, some (.boolean), [], 17, 3, 0, 1, 99999, 0),
  (⟨"ColumnVault", "group", "(II)I"⟩, prog_1_method_28_code, 3, some (.int), [], 12, 2, 0, 0, 0, 0),
  (⟨"ColumnVault", "meanOf", "(II)D"⟩, prog_1_method_39_code, 5, some (.double), [], 12, 2, 0, 0, 0, 0),
  (⟨"ColumnVaultLaw", "isTold", "(LColumnVault;[II)Z"⟩, method_27_code, 29, some (.boolean), [], 17, 3, 0, 1, 99999, 0),
  (⟨"ColumnVault", "previous", "(III)I"⟩, prog_1_method_34_code, 6, some (.int), [], 12, 3, 0, 0, 0, 0),
  (⟨"ColumnVaultLaw", "areAlike", "(LColumnVault;I)Z"⟩, method_28_code, 4, some (.boolean), [], 17, 2, 0, 1, 99999, 0),
  (⟨"ColumnVaultLaw", "areSets", "(LColumnVault;II)Z"⟩, method_29_code, 6, some (.boolean), [], 17, 3, 0, 1, 99999, 0)]
def zt_m5 : List zx_M := [
  (⟨"ColumnVaultLaw", "isBack", "(LColumnVault;[I)Z"⟩, method_30_code, 9, some (.boolean), [], 17, 2, 0, 1, 99999, 0),
  (⟨"ColumnVaultLaw", "digest", "(LColumnVault;I)J"⟩, method_15_code, 13, some (.long), [], 17, 2, 0, 1, 99999, 0),
  (⟨"ColumnVaultLaw", "areRefused", "(LColumnVault;[I)Z"⟩, method_31_code, 6, some (.boolean), [], 17, 2, 0, 1, 99999, 0)]
def zt_m : List zx_M := zt_m0 ++ (zt_m1 ++ (zt_m2 ++ (zt_m3 ++ (zt_m4 ++ (zt_m5)))))
def zx_lim : Nat := 1000000
/-- the letters of the texts that are read -/
def zt_tx : List (List Int32) := [[35], [32], [], [60], [62], [61], [116, 111], [105, 110], [109, 105, 115, 115, 105, 110, 103], [33], [33, 32], [40], [41], [124], [32, 124, 32], [38], [32, 38, 32], [33, 40], [35, 48, 32, 60, 32], [35, 48, 32, 61, 32, 53, 32], [35, 48, 32], [35, 48, 32, 116, 111, 32, 49, 32], [35, 48, 32, 105, 110, 32, 49, 32, 50, 32, 51, 32, 52, 32, 53, 32, 54, 32], [33, 33, 33], [40, 40, 40, 40, 40, 40], [35, 48, 32, 61, 32], [35, 48, 32, 60, 32, 53, 32, 38, 32], [40, 35, 48, 32, 109, 105, 115, 115, 105, 110, 103], [35, 48, 32, 62, 32, 45], [35, 48, 32, 109, 105, 115, 115, 105, 110, 103, 32], [35, 48, 32, 61, 32, 53, 32, 124, 32], [53], [109, 105, 115, 115, 105, 110], [120], [55], [33, 35, 48, 61, 49], [40, 35, 48, 61, 49], [97, 98, 99, 100, 101, 102, 103, 104], [53, 45], [61, 49], [35, 49, 32, 61, 32, 53], [35, 48, 32, 61, 32, 102, 105, 118, 101]]
/-- a text's two cells -/
def zt_tc (j : Nat) (t : List Int32) : FieldType × ((Nat × vp_A) ⊕ (Nat × List Value)) := if j % 2 = 0 then (.object "java/lang/String", .inr (0, [.ref (zx_lim + 1 + (j + 1)), .int 0, .retAddr 0, .retAddr 0])) else (.byte, .inl (0, t.length, .inl (fun i => t.getD i 0)))
/-- cells that stood before, by place behind zx_lim + 1: the type (of an array its component), what it holds (.retAddr 0: not said) -/
def zt_ext (j : Nat) : Option (FieldType × ((Nat × vp_A) ⊕ (Nat × List Value))) :=
  if j < 600 then none else if j < 800 then (zt_tx[(j - 600) / 2]?).map (zt_tc j) else if j = 800 then some (.byte, .inl (0, 100, .inl (fun i => Int32.ofNat (48 + i % 10)))) else if j = 801 then some (.byte, .inl (0, 100, .inl (fun i => Int32.ofNat (48 + i / 10)))) else none
/-- texts that are read: class, place in its pool, text, place among the cells that stood before -/
def zt_str : List (String × Nat × String × Nat) := [("ColumnVaultLaw", 217, "#", 600), ("ColumnVaultLaw", 225, " ", 602), ("ColumnVaultLaw", 227, "", 604), ("ColumnVaultLaw", 229, "<", 606), ("ColumnVaultLaw", 231, ">", 608), ("ColumnVaultLaw", 233, "=", 610), ("ColumnVaultLaw", 235, "to", 612), ("ColumnVaultLaw", 237, "in", 614), ("ColumnVaultLaw", 239, "missing", 616), ("ColumnVaultLaw", 244, "!", 618), ("ColumnVaultLaw", 246, "! ", 620), ("ColumnVaultLaw", 252, "(", 622), ("ColumnVaultLaw", 257, ")", 624), ("ColumnVaultLaw", 263, "|", 626), ("ColumnVaultLaw", 265, " | ", 628), ("ColumnVaultLaw", 267, "&", 630), ("ColumnVaultLaw", 269, " & ", 632), ("ColumnVaultLaw", 308, "!(", 634), ("ColumnVaultLaw", 317, "#0 < ", 636), ("ColumnVaultLaw", 319, "#0 = 5 ", 638), ("ColumnVaultLaw", 321, "#0 ", 640), ("ColumnVaultLaw", 323, "#0 to 1 ", 642), ("ColumnVaultLaw", 325, "#0 in 1 2 3 4 5 6 ", 644), ("ColumnVaultLaw", 327, "!!!", 646), ("ColumnVaultLaw", 329, "((((((", 648), ("ColumnVaultLaw", 331, "#0 = ", 650), ("ColumnVaultLaw", 333, "#0 < 5 & ", 652), ("ColumnVaultLaw", 335, "(#0 missing", 654), ("ColumnVaultLaw", 337, "#0 > -", 656), ("ColumnVaultLaw", 339, "#0 missing ", 658), ("ColumnVaultLaw", 341, "#0 = 5 | ", 660), ("ColumnVaultLaw", 343, "5", 662), ("ColumnVaultLaw", 345, "missin", 664), ("ColumnVaultLaw", 347, "x", 666), ("ColumnVaultLaw", 349, "7", 668), ("ColumnVaultLaw", 351, "!#0=1", 670), ("ColumnVaultLaw", 353, "(#0=1", 672), ("ColumnVaultLaw", 355, "abcdefgh", 674), ("ColumnVaultLaw", 357, "5-", 676), ("ColumnVaultLaw", 359, "=1", 678), ("ColumnVaultLaw", 361, "#1 = 5", 680), ("ColumnVaultLaw", 363, "#0 = five", 682)]
/-- static fields -/
def zt_stn : List (String × String × String) := [("java/lang/String", "COMPACT_STRINGS", "Z"), ("jdk/internal/util/Preconditions", "SIOOBE_FORMATTER", "Ljava/util/function/BiFunction;"), ("java/lang/Integer", "DigitOnes", "[B"), ("java/lang/Integer", "DigitTens", "[B")]
def zt_stv (nf : Bool) : List Value := [.int 1, if nf then .null else .ref (zx_lim + 6), .ref (zx_lim + 1 + 800), .ref (zx_lim + 1 + 801)]
/-- the place of Object[] among the array types -/
def zt_objT : Nat := 999
def zt_pl0 : List (Nat × Nat × Nat × Nat × Nat) := [(1, 10, 0, 0, 5115), (9, 0, 0, 0, 5230), (15, 0, 0, 1, 5231), (19, 0, 0, 2, 5232), (23, 0, 0, 3, 5233), (38, 14, 0, 0, 5199), (47, 4, 187, 0, 5227), (54, 4, 163, 0, 5130), (106, 4, 146, 0, 5214), (212, 17, 0, 0, 5213), (335, 6, 180, 0, 5195), (489, 8, 159, 0, 5112), (492, 6, 190, 0, 6012), (495, 4, 191, 0, 6016), (498, 4, 192, 0, 6020), (549, 12, 2, 0, 5121), (552, 12, 1, 0, 5116), (586, 4, 215, 0, 6110), (590, 4, 237, 0, 6224), (591, 4, 239, 0, 6231), (594, 4, 242, 0, 7002), (1005, 13, 0, 0, 7215), (1007, 12, 6, 0, 7217), (1047, 12, 0, 0, 5129), (1048, 0, 1, 2, 5001), (1051, 4, 184, 0, 5217), (1053, 14, 1, 0, 5077), (1059, 4, 156, 0, 5100), (1062, 4, 173, 0, 5168), (1065, 4, 151, 0, 5079)]
def zt_lc0 : List (Nat × Int64 × Nat) := []
def zt_pl1 : List (Nat × Nat × Nat × Nat × Nat) := [(1, 8, 132, 0, 4226), (7, 8, 258, 0, 7085), (17, 4, 280, 0, 7212), (18, 2, 0, 6, 5107), (23, 6, 175, 0, 7092), (29, 21, 176, 0, 5181), (50, 21, 136, 0, 5016), (53, 21, 167, 0, 5146), (56, 21, 264, 0, 7121), (101, 21, 211, 0, 6095), (137, 8, 158, 0, 5109), (329, 21, 272, 0, 7178), (343, 21, 162, 0, 5127)]
def zt_lc1 : List (Nat × Int64 × Nat) := []
def zt_pl2 : List (Nat × Nat × Nat × Nat × Nat) := [(3, 10, 0, 0, 1180), (9, 2, 10, 0, 1181), (11, 9, 3, 0, 1182), (12, 0, 2, 0, 1185), (18, 2, 5, 999, 1183), (20, 9, 7, 0, 1184), (21, 0, 2, 1, 1186), (25, 0, 2, 2, 1187), (29, 1, 10, 3, 1059), (33, 6, 247, 0, 7020), (37, 6, 249, 0, 7036), (41, 6, 254, 0, 7064), (44, 6, 25, 0, 7024), (48, 6, 205, 0, 7025), (52, 1, 10, 4, 1065), (55, 6, 50, 0, 7026), (59, 6, 248, 0, 7027), (63, 6, 126, 0, 7034), (67, 6, 68, 0, 7035), (71, 6, 16, 0, 7031), (75, 6, 202, 0, 7032), (78, 5, 206, 0, 7033), (82, 6, 250, 0, 7040), (86, 1, 5, 4, 1162), (89, 6, 99, 0, 7056), (92, 4, 12, 0, 7057), (98, 1, 10, 5, 1071), (102, 6, 35, 0, 7058), (105, 6, 253, 0, 7059), (108, 6, 105, 0, 7063), (112, 1, 5, 0, 1156), (117, 6, 98, 0, 7069), (120, 6, 15, 0, 7070), (128, 6, 255, 0, 7073)]
def zt_lc2 : List (Nat × Int64 × Nat) := [(115, -8999999999, 7068), (124, -9000000000, 7071), (126, 9223372036854775807, 7072)]
def zt_pl3 : List (Nat × Nat × Nat × Nat × Nat) := [(3, 10, 0, 0, 3042), (9, 0, 3, 2, 3045), (15, 0, 3, 3, 3046), (19, 0, 3, 4, 3047), (22, 0, 3, 5, 3048), (25, 0, 3, 6, 3050), (28, 0, 3, 0, 3043), (32, 0, 3, 1, 3044), (36, 6, 56, 0, 3071), (42, 6, 65, 0, 3111), (46, 6, 71, 0, 3165), (50, 6, 72, 0, 3169), (53, 6, 73, 0, 3173), (57, 2, 8, 999, 3115), (59, 8, 66, 0, 3117), (62, 6, 67, 0, 3149), (65, 6, 83, 0, 3225), (69, 6, 70, 0, 3161), (73, 6, 68, 0, 3153), (79, 6, 69, 0, 3157), (82, 6, 74, 0, 3177), (85, 6, 75, 0, 3181), (89, 6, 82, 0, 3220), (93, 6, 76, 0, 3185), (97, 6, 28, 0, 3189), (100, 6, 77, 0, 3190), (103, 6, 35, 0, 3198), (106, 6, 78, 0, 3199), (110, 6, 81, 0, 3213), (122, 6, 79, 0, 3203), (126, 6, 80, 0, 3207), (131, 5, 42, 0, 3212), (137, 6, 15, 0, 3218)]
def zt_lc3 : List (Nat × Int64 × Nat) := [(114, -1, 3194), (116, 29807, 3195), (118, 26990, 3196), (120, 30796717039906407, 3197), (129, -9000000000, 3211), (135, -8999999999, 3217), (141, 9223372036854775807, 3219)]
def zt_pl4 : List (Nat × Nat × Nat × Nat × Nat) := [(3, 10, 0, 0, 1101), (9, 0, 4, 0, 1102), (15, 0, 4, 1, 1103), (21, 6, 115, 0, 4152)]
def zt_lc4 : List (Nat × Int64 × Nat) := [(19, 255, 4151)]
def zt_pl5 : List (Nat × Nat × Nat × Nat × Nat) := [(3, 10, 0, 0, 1152), (9, 2, 10, 0, 1153), (11, 9, 3, 0, 1154), (12, 0, 5, 0, 1155), (18, 0, 5, 1, 1158), (22, 0, 5, 2, 1159), (25, 0, 5, 3, 1160), (29, 0, 5, 4, 1161), (32, 6, 25, 0, 7044), (36, 1, 10, 4, 1063), (39, 1, 10, 5, 1070), (43, 5, 90, 0, 7045), (47, 6, 251, 0, 7046), (51, 6, 16, 0, 7050), (55, 5, 206, 0, 7051), (59, 6, 252, 0, 7052), (65, 6, 35, 0, 4053), (69, 6, 98, 0, 4054), (73, 5, 45, 0, 4059)]
def zt_lc5 : List (Nat × Int64 × Nat) := [(63, -9000000000, 4058)]
def zt_pl6 : List (Nat × Nat × Nat × Nat × Nat) := [(3, 10, 0, 0, 1047), (9, 2, 10, 0, 1048), (11, 0, 6, 0, 1088), (17, 0, 6, 1, 1089), (21, 9, 3, 0, 1051), (22, 6, 11, 0, 2149), (26, 6, 25, 0, 2150)]
def zt_lc6 : List (Nat × Int64 × Nat) := []
def zt_pl7 : List (Nat × Nat × Nat × Nat × Nat) := [(3, 10, 0, 0, 8090), (9, 0, 7, 0, 8091), (15, 0, 7, 1, 8092), (19, 0, 7, 2, 8093), (22, 0, 7, 3, 8094), (25, 1, 10, 5, 1068), (31, 6, 106, 0, 8108), (35, 6, 288, 0, 8109), (39, 6, 290, 0, 8120), (43, 6, 292, 0, 8130), (49, 4, 12, 0, 8135), (55, 6, 16, 0, 8113), (59, 6, 29, 0, 8114), (63, 6, 289, 0, 8115), (67, 1, 10, 4, 1066), (72, 5, 90, 0, 8125), (76, 6, 291, 0, 8126), (80, 16, 0, 0, 8119)]
def zt_lc7 : List (Nat × Int64 × Nat) := [(70, -9000000000, 8124), (47, -1, 8134)]
def zt_pl8 : List (Nat × Nat × Nat × Nat × Nat) := [(3, 10, 0, 0, 3120), (9, 0, 8, 2, 3125), (15, 0, 8, 3, 3127), (18, 0, 8, 4, 3128), (21, 0, 8, 5, 3130), (24, 0, 8, 6, 3132), (27, 0, 8, 0, 3121), (31, 0, 8, 1, 3123), (37, 6, 84, 0, 3229), (41, 6, 85, 0, 3233), (45, 4, 12, 0, 3237)]
def zt_lc8 : List (Nat × Int64 × Nat) := [(35, -1, 3224)]
def zt_pl9 : List (Nat × Nat × Nat × Nat × Nat) := [(3, 10, 0, 0, 1135), (9, 0, 9, 0, 1136), (15, 0, 9, 1, 1137), (18, 0, 9, 2, 1138), (22, 1, 10, 4, 1062), (27, 1, 10, 5, 1069), (31, 5, 90, 0, 4017), (35, 6, 16, 0, 4020), (41, 6, 14, 0, 4022), (45, 6, 91, 0, 4023), (49, 6, 92, 0, 4027)]
def zt_lc9 : List (Nat × Int64 × Nat) := [(39, -9000000000, 4021)]
def zt_pl10 : List (Nat × Nat × Nat × Nat × Nat) := [(3, 10, 0, 0, 1054), (9, 0, 10, 0, 1055), (15, 0, 10, 1, 1056), (19, 0, 10, 2, 1057), (22, 0, 10, 3, 1058), (26, 0, 10, 4, 1061), (29, 0, 10, 5, 1067), (33, 17, 0, 0, 2154), (39, 6, 35, 0, 2239), (43, 6, 28, 0, 2165), (49, 6, 29, 0, 2169), (52, 6, 16, 0, 2074), (56, 5, 45, 0, 3000), (60, 6, 14, 0, 2066), (63, 4, 12, 0, 2078), (69, 6, 27, 0, 2161), (73, 6, 195, 0, 6033), (79, 6, 50, 0, 6084), (82, 5, 206, 0, 6077), (86, 5, 90, 0, 4068), (94, 6, 15, 0, 2070), (98, 6, 104, 0, 4096), (102, 6, 120, 0, 4173), (106, 6, 119, 0, 4169), (110, 6, 121, 0, 4186)]
def zt_lc10 : List (Nat × Int64 × Nat) := [(47, -9000000000, 2065), (90, -8999999999, 4086), (92, 9223372036854775807, 4087), (77, -1, 4177)]
def zt_pl11 : List (Nat × Nat × Nat × Nat × Nat) := [(3, 10, 0, 0, 1116), (9, 0, 11, 0, 1117), (15, 0, 11, 1, 1118), (18, 0, 11, 2, 1119), (22, 0, 11, 3, 1120), (26, 1, 4, 1, 1104), (31, 6, 57, 0, 3075), (35, 6, 58, 0, 3079), (39, 16, 0, 0, 3108), (47, 6, 59, 0, 3084), (51, 5, 60, 0, 3088), (55, 5, 41, 0, 3091), (58, 6, 61, 0, 3092), (61, 6, 62, 0, 3097), (72, 16, 0, 2, 3104)]
def zt_lc11 : List (Nat × Int64 × Nat) := [(45, -1, 3083), (64, -9000000000, 3096), (66, 10, 3101), (68, 48, 3102), (70, 1000001, 3103), (76, 1000000, 3107)]
def zt_pl12 : List (Nat × Nat × Nat × Nat × Nat) := [(5, 10, 0, 0, 1039), (11, 2, 6, 999, 1042), (13, 8, 2, 0, 1044), (14, 0, 12, 0, 1195), (18, 2, 4, 999, 1096), (20, 9, 4, 0, 1098), (21, 0, 12, 1, 1196), (25, 2, 11, 999, 1111), (27, 9, 5, 0, 1113), (28, 0, 12, 2, 1197), (32, 2, 9, 999, 1130), (34, 9, 6, 0, 1132), (35, 0, 12, 3, 1198), (39, 2, 5, 999, 1147), (41, 9, 7, 0, 1149), (42, 0, 12, 4, 1199), (46, 2, 2, 999, 1175), (48, 9, 8, 0, 1177), (49, 0, 12, 5, 1200), (53, 6, 10, 0, 1218), (57, 2, 14, 999, 2079), (59, 13, 0, 0, 2124), (64, 1, 10, 3, 1060), (70, 2, 15, 999, 2125), (72, 13, 0, 0, 2134), (75, 6, 23, 0, 2141), (78, 6, 26, 0, 2157), (82, 1, 10, 4, 1064), (85, 13, 0, 0, 2177), (87, 6, 31, 0, 2178), (91, 6, 33, 0, 2186), (95, 6, 35, 0, 2195), (98, 4, 36, 0, 2199), (102, 13, 0, 0, 2204), (104, 6, 27, 0, 2205), (108, 4, 38, 0, 2210), (114, 4, 39, 0, 2216), (118, 6, 16, 0, 2227), (122, 4, 42, 0, 2228), (126, 6, 194, 0, 6029), (130, 6, 44, 0, 2235), (133, 1, 10, 5, 1072), (137, 4, 12, 0, 2055), (141, 6, 13, 0, 2061), (144, 13, 0, 0, 2088), (146, 1, 6, 1, 1090), (149, 6, 47, 0, 3007), (153, 2, 13, 999, 1226), (155, 13, 0, 0, 3011), (158, 6, 24, 0, 2145), (161, 6, 205, 0, 6073), (165, 6, 207, 0, 6080), (169, 4, 49, 0, 3016), (172, 6, 50, 0, 3020), (175, 6, 202, 0, 6060), (178, 4, 90, 0, 6050), (182, 13, 0, 0, 3028), (184, 6, 52, 0, 3029), (188, 1, 8, 1, 3124), (195, 6, 68, 0, 7200), (199, 4, 277, 0, 7201), (203, 6, 53, 0, 3033), (207, 6, 55, 0, 3067), (208, 2, 3, 999, 3037), (213, 1, 3, 5, 3049), (216, 1, 3, 6, 3051), (219, 1, 4, 1, 1105), (222, 4, 113, 0, 4143), (225, 13, 0, 0, 4146), (227, 6, 114, 0, 4147), (242, 4, 88, 0, 4008), (246, 13, 0, 0, 4012), (248, 6, 89, 0, 4013), (252, 1, 9, 2, 1139), (255, 13, 0, 0, 4035), (257, 6, 94, 0, 4036), (261, 2, 7, 999, 8085), (263, 8, 286, 0, 8087), (266, 6, 287, 0, 8104), (269, 6, 250, 0, 8143), (271, 1, 5, 4, 1163), (272, 6, 96, 0, 4044), (275, 6, 97, 0, 4049), (279, 6, 99, 0, 4060), (282, 1, 5, 0, 1157), (286, 6, 100, 0, 4064), (289, 6, 101, 0, 4069), (292, 13, 0, 0, 4073), (294, 4, 103, 0, 4078), (298, 4, 34, 0, 2190), (301, 4, 125, 0, 4196), (304, 6, 126, 0, 4200), (307, 6, 105, 0, 4088), (310, 2, 16, 999, 4101), (312, 13, 0, 0, 4121), (315, 6, 14, 0, 4122), (320, 6, 15, 0, 4124), (324, 6, 111, 0, 4133), (328, 13, 0, 0, 4137), (330, 4, 45, 0, 4138), (333, 6, 117, 0, 4160), (337, 13, 0, 0, 4164), (339, 6, 118, 0, 4165), (342, 6, 121, 0, 4178), (345, 6, 122, 0, 4182), (348, 13, 0, 0, 4187), (350, 6, 246, 0, 7016), (353, 6, 104, 0, 4082), (356, 6, 11, 0, 1222), (359, 13, 0, 0, 2028), (361, 8, 54, 0, 3039), (364, 13, 0, 0, 3238), (366, 13, 0, 0, 4048), (368, 6, 28, 0, 2193), (371, 13, 0, 0, 2194), (373, 6, 29, 0, 2213), (376, 13, 0, 0, 2214), (378, 13, 0, 0, 3019), (380, 4, 40, 0, 2219), (383, 13, 0, 0, 2226), (385, 13, 0, 0, 4199), (387, 13, 0, 0, 4011), (395, 4, 41, 0, 2223), (398, 13, 0, 0, 4081), (400, 6, 106, 0, 4092), (404, 6, 107, 0, 4097), (408, 13, 0, 0, 4110), (410, 1, 8, 0, 3122), (413, 1, 8, 5, 3131), (417, 1, 8, 2, 3126), (420, 1, 8, 6, 3133), (423, 1, 8, 4, 3129)]
def zt_lc12 : List (Nat × Int64 × Nat) := [(389, -1000000, 2202), (391, 1000000, 2203), (112, -9000000000, 2215), (393, 255, 2222), (193, -1, 3239), (318, -8999999999, 4123)]
def zt_pl13 : List (Nat × Nat × Nat × Nat × Nat) := []
def zt_lc13 : List (Nat × Int64 × Nat) := []
def zt_pl14 : List (Nat × Nat × Nat × Nat × Nat) := []
def zt_lc14 : List (Nat × Int64 × Nat) := []
def zt_pl15 : List (Nat × Nat × Nat × Nat × Nat) := []
def zt_lc15 : List (Nat × Int64 × Nat) := []
def zt_pl16 : List (Nat × Nat × Nat × Nat × Nat) := []
def zt_lc16 : List (Nat × Int64 × Nat) := []
def zt_pl17 : List (Nat × Nat × Nat × Nat × Nat) := [(1, 2, 12, 999, 1034), (13, 2, 1, 999, 4221), (15, 8, 131, 0, 4223), (16, 4, 20, 0, 2109), (22, 6, 135, 0, 5012), (26, 6, 157, 0, 5103), (30, 6, 179, 0, 6006), (31, 2, 0, 6, 8052), (38, 6, 189, 0, 6008), (42, 6, 210, 0, 6091), (46, 4, 130, 0, 4218), (50, 4, 188, 0, 6003), (56, 4, 209, 0, 6088), (60, 6, 214, 0, 6106), (64, 4, 243, 0, 7006), (70, 4, 244, 0, 7009), (76, 6, 22, 0, 2120), (80, 6, 30, 0, 2173), (83, 6, 32, 0, 2182), (87, 6, 37, 0, 2206), (91, 6, 43, 0, 2231), (95, 6, 46, 0, 3003), (98, 6, 48, 0, 3012), (101, 6, 51, 0, 3024), (104, 6, 86, 0, 4000), (107, 6, 87, 0, 4004), (110, 6, 93, 0, 4031), (114, 6, 95, 0, 4040), (118, 6, 102, 0, 4074), (121, 6, 108, 0, 4117), (125, 6, 109, 0, 4125), (129, 6, 110, 0, 4129), (133, 6, 112, 0, 4139), (137, 6, 116, 0, 4156), (141, 6, 123, 0, 4188), (144, 6, 124, 0, 4192), (147, 6, 9, 0, 1214), (150, 2, 13, 999, 2116), (154, 2, 16, 999, 2117), (158, 2, 14, 999, 2118), (162, 2, 15, 999, 2119), (166, 6, 128, 0, 4211), (169, 4, 129, 0, 4215), (173, 6, 193, 0, 6025), (176, 18, 4, 0, 6054), (178, 6, 199, 0, 6046), (184, 4, 200, 0, 6051), (188, 4, 197, 0, 6040), (192, 4, 198, 0, 6043), (198, 6, 17, 0, 2095), (201, 6, 201, 0, 6056), (206, 6, 204, 0, 6069), (210, 4, 208, 0, 6085), (214, 6, 245, 0, 7012), (217, 13, 600, 1, 7109), (219, 6, 175, 0, 7098), (222, 6, 166, 0, 7110), (225, 13, 602, 1, 7080), (227, 13, 604, 1, 7081), (229, 13, 606, 1, 7111), (231, 13, 608, 1, 7112), (233, 13, 610, 1, 7113), (235, 13, 612, 1, 7114), (237, 13, 614, 1, 7115), (239, 13, 616, 1, 7116), (241, 6, 263, 0, 7117), (244, 13, 618, 1, 7102), (246, 13, 620, 1, 7103), (248, 4, 261, 0, 7099), (252, 13, 622, 1, 7104), (254, 4, 260, 0, 7093), (257, 13, 624, 1, 7105), (259, 4, 262, 0, 7106), (263, 13, 626, 1, 7096), (265, 13, 628, 1, 7097), (267, 13, 630, 1, 7144), (269, 13, 632, 1, 7145), (271, 6, 270, 0, 7150), (274, 11, 4, 0, 7155), (277, 11, 5, 0, 7167), (278, 4, 21, 0, 2113), (284, 8, 257, 0, 7082), (287, 6, 161, 0, 7146), (288, 4, 269, 0, 7147), (292, 6, 273, 0, 7185), (295, 6, 274, 0, 7189), (298, 4, 275, 0, 7193), (301, 6, 276, 0, 7196), (304, 4, 278, 0, 7204), (308, 13, 634, 1, 7207), (310, 6, 279, 0, 7208), (313, 6, 282, 0, 8044), (317, 13, 636, 1, 8054), (319, 13, 638, 1, 8055), (321, 13, 640, 1, 8056), (323, 13, 642, 1, 8057), (325, 13, 644, 1, 8058), (327, 13, 646, 1, 8059), (329, 13, 648, 1, 8060), (331, 13, 650, 1, 8061), (333, 13, 652, 1, 8062), (335, 13, 654, 1, 8063), (337, 13, 656, 1, 8064), (339, 13, 658, 1, 8065), (341, 13, 660, 1, 8066), (343, 13, 662, 1, 8067), (345, 13, 664, 1, 8068), (347, 13, 666, 1, 8069), (349, 13, 668, 1, 8070), (351, 13, 670, 1, 8071), (353, 13, 672, 1, 8072), (355, 13, 674, 1, 8073), (357, 13, 676, 1, 8074), (359, 13, 678, 1, 8075), (361, 13, 680, 1, 8076), (363, 13, 682, 1, 8077), (365, 6, 285, 0, 8081), (368, 6, 294, 0, 8139), (371, 6, 295, 0, 8145), (375, 6, 297, 0, 8152), (380, 4, 301, 0, 8166), (396, 4, 19, 0, 2103), (400, 8, 1, 0, 1036), (401, 4, 127, 0, 4208), (405, 4, 196, 0, 6037), (409, 4, 203, 0, 6066), (412, 4, 256, 0, 7077), (415, 4, 283, 0, 8048), (418, 4, 284, 0, 8078), (422, 4, 296, 0, 8149), (425, 4, 299, 0, 8160), (429, 4, 298, 0, 8157), (433, 4, 293, 0, 8136), (436, 4, 300, 0, 8163), (440, 4, 302, 0, 8170), (443, 6, 18, 0, 2099)]
def zt_lc17 : List (Nat × Int64 × Nat) := [(152, -3000000001, 4204), (156, -3000000002, 4205), (160, -3000000003, 4206), (164, -3000000004, 4207), (36, 256, 6007), (204, -9000000000, 6064), (282, -1, 7184), (196, 2, 8144), (378, 4, 8156), (182, 31, 8169), (384, 1000001, 8173), (386, 999990, 8174), (388, 6, 8175), (390, 9, 8176), (392, 5, 8177), (394, 24832, 8178)]
def zt_pl18 : List (Nat × Nat × Nat × Nat × Nat) := [(133, 14, 2, 0, 7134), (137, 14, 3, 0, 7135), (308, 4, 228, 0, 6188), (311, 4, 230, 0, 6197)]
def zt_lc18 : List (Nat × Int64 × Nat) := [(314, 6148914691236517205, 2058), (316, 3689348814741910323, 2059), (318, 1085102592571150095, 2060), (140, -10, 7127), (53, 10, 7128), (129, -2147483648, 7132), (131, 100, 7133)]
def zt_pl19 : List (Nat × Nat × Nat × Nat × Nat) := []
def zt_lc19 : List (Nat × Int64 × Nat) := []
def zt_pl20 : List (Nat × Nat × Nat × Nat × Nat) := [(3, 10, 0, 0, 4229), (15, 0, 1, 0, 4239), (18, 14, 0, 0, 4230), (22, 0, 1, 1, 5000), (26, 4, 133, 0, 4232), (32, 6, 179, 0, 5191), (40, 6, 180, 0, 5208), (43, 12, 3, 0, 7089), (79, 0, 1, 3, 5002), (83, 12, 0, 0, 5050), (100, 15, 137, 0, 5019), (104, 15, 138, 0, 5023), (108, 4, 141, 0, 5036), (114, 4, 139, 0, 5027), (125, 4, 146, 0, 5062), (138, 16, 0, 1, 7181), (144, 4, 155, 0, 7182), (148, 4, 186, 0, 7183), (191, 4, 144, 0, 5055), (195, 15, 145, 0, 5058), (197, 4, 153, 0, 5091), (204, 15, 177, 0, 5184), (208, 15, 181, 0, 5200), (226, 4, 178, 0, 5188), (245, 4, 168, 0, 5149), (248, 4, 169, 0, 5152), (251, 4, 170, 0, 5159), (254, 4, 265, 0, 7124), (259, 4, 266, 0, 7129), (262, 4, 267, 0, 7136), (283, 15, 213, 0, 6101), (309, 17, 0, 0, 6105), (315, 4, 212, 0, 6098), (397, 15, 182, 0, 5204), (399, 6, 183, 0, 5209)]
def zt_lc20 : List (Nat × Int64 × Nat) := []
def zt_pl21 : List (Nat × Nat × Nat × Nat × Nat) := [(11, 4, 134, 0, 4235), (48, 4, 149, 0, 5071), (67, 4, 154, 0, 5094), (71, 4, 186, 0, 5223), (96, 4, 171, 0, 5162), (111, 4, 152, 0, 5082), (123, 4, 185, 0, 5220), (126, 4, 163, 0, 5226), (173, 4, 148, 0, 5068), (176, 4, 238, 0, 6227), (183, 16, 0, 1, 6230), (189, 4, 239, 0, 7005), (241, 4, 172, 0, 5165), (393, 4, 174, 0, 5171), (396, 4, 268, 0, 7139), (403, 14, 2, 0, 5174), (407, 14, 3, 0, 5175), (414, 4, 155, 0, 5097), (419, 4, 150, 0, 5074)]
def zt_lc21 : List (Nat × Int64 × Nat) := [(410, -2147483648, 7142), (412, 100, 7143)]
def zt_pl22 : List (Nat × Nat × Nat × Nat × Nat) := [(11, 4, 230, 0, 6220), (30, 6, 219, 0, 6131), (40, 4, 227, 0, 6185), (49, 4, 229, 0, 6194), (54, 6, 231, 0, 6202), (58, 4, 228, 0, 6219), (122, 4, 218, 0, 6124), (194, 16, 0, 0, 5030), (201, 4, 140, 0, 5032)]
def zt_lc22 : List (Nat × Int64 × Nat) := []
def zt_pl23 : List (Nat × Nat × Nat × Nat × Nat) := [(43, 2, 14, 999, 5139), (45, 2, 1, 999, 5140), (47, 8, 131, 0, 5141), (50, 6, 175, 0, 5177), (54, 6, 166, 0, 5142), (61, 6, 157, 0, 5215), (150, 17, 0, 0, 5049), (304, 16, 0, 1, 5046), (310, 23, 3, 0, 5039), (311, 18, 3, 0, 5045), (337, 13, 0, 0, 5176), (339, 4, 164, 0, 5133), (343, 4, 165, 0, 5136)]
def zt_lc23 : List (Nat × Int64 × Nat) := []
def zt_pl24 : List (Nat × Nat × Nat × Nat × Nat) := [(9, 4, 155, 0, 6019), (34, 4, 216, 0, 6113), (38, 16, 0, 1, 6116), (44, 4, 217, 0, 6117), (50, 4, 236, 0, 6221), (54, 4, 240, 0, 6234), (58, 4, 149, 0, 6237), (59, 4, 241, 0, 6238), (65, 4, 186, 0, 7001), (240, 4, 147, 0, 5065)]
def zt_lc24 : List (Nat × Int64 × Nat) := []
def zt_pl25 : List (Nat × Nat × Nat × Nat × Nat) := []
def zt_lc25 : List (Nat × Int64 × Nat) := []
def zt_pl26 : List (Nat × Nat × Nat × Nat × Nat) := [(83, 14, 2, 0, 5155), (87, 14, 3, 0, 5157)]
def zt_lc26 : List (Nat × Int64 × Nat) := []
def zt_pl27 : List (Nat × Nat × Nat × Nat × Nat) := [(698, 4, 220, 0, 6146), (704, 4, 223, 0, 6164), (709, 4, 225, 0, 6176), (719, 4, 232, 0, 6206), (723, 4, 234, 0, 6213), (781, 4, 226, 0, 6179), (784, 4, 222, 0, 6153), (788, 4, 224, 0, 6167), (791, 4, 221, 0, 6149), (792, 4, 233, 0, 6209), (796, 4, 235, 0, 6216)]
def zt_lc27 : List (Nat × Int64 × Nat) := [(696, 7, 6135), (349, 3, 6140), (205, 4, 6145), (812, 4294967295, 6152), (203, 2, 6162), (702, 6, 6163), (810, 65535, 6170), (707, 5, 6175), (808, 255, 6182)]
/-- calls through List: the named method, the place of the one that runs -/
def zt_ift : List (MethodName × Nat) := []
/-- methods that are found by the receiver: the one that is named -/
def zt_vn : List MethodName := [⟨"java/lang/AbstractStringBuilder", "isLatin1", "()Z"⟩, ⟨"java/lang/AbstractStringBuilder", "getValue", "()[B"⟩, ⟨"java/lang/AbstractStringBuilder", "length", "()I"⟩, ⟨"java/lang/AbstractStringBuilder", "append", "(Ljava/lang/String;)Ljava/lang/AbstractStringBuilder;"⟩, ⟨"java/lang/CharSequence", "length", "()I"⟩, ⟨"java/lang/CharSequence", "charAt", "(I)C"⟩, ⟨"java/lang/Object", "toString", "()Ljava/lang/String;"⟩]
/-- .. which one, by its place there; the receiver's class; the one that runs; by an interface? -/
def zt_vt : List (Nat × Nat × Nat × Bool) := [(0, 1, 143, false), (1, 1, 160, false), (2, 1, 161, false), (3, 1, 259, false), (4, 0, 179, true), (4, 1, 161, true), (5, 0, 189, true), (5, 1, 271, true), (6, 0, 281, false), (6, 1, 157, false)]
/-- .. how many parameters -/
def zt_vp : List Nat := [0, 0, 0, 1, 0, 1, 0]
def zt_ic0 : List (Nat × Int32 × Nat) := []
def zt_ic1 : List (Nat × Int32 × Nat) := []
def zt_ic2 : List (Nat × Int32 × Nat) := []
def zt_ic3 : List (Nat × Int32 × Nat) := []
def zt_ic4 : List (Nat × Int32 × Nat) := []
def zt_ic5 : List (Nat × Int32 × Nat) := []
def zt_ic6 : List (Nat × Int32 × Nat) := []
def zt_ic7 : List (Nat × Int32 × Nat) := []
def zt_ic8 : List (Nat × Int32 × Nat) := []
def zt_ic9 : List (Nat × Int32 × Nat) := []
def zt_ic10 : List (Nat × Int32 × Nat) := []
def zt_ic11 : List (Nat × Int32 × Nat) := []
def zt_ic12 : List (Nat × Int32 × Nat) := []
def zt_ic13 : List (Nat × Int32 × Nat) := []
def zt_ic14 : List (Nat × Int32 × Nat) := []
def zt_ic15 : List (Nat × Int32 × Nat) := []
def zt_ic16 : List (Nat × Int32 × Nat) := []
def zt_ic17 : List (Nat × Int32 × Nat) := [(9, 987654321, 2106), (10, 16777619, 2107), (11, 1103515245, 2108), (12, 69069, 2112), (54, 2000001, 6023), (55, 1000000, 6024), (316, 1000001, 8051)]
def zt_ic18 : List (Nat × Int32 × Nat) := []
def zt_ic19 : List (Nat × Int32 × Nat) := []
def zt_ic20 : List (Nat × Int32 × Nat) := [(39, 2147483647, 5035), (38, 2147483631, 7088)]
def zt_ic21 : List (Nat × Int32 × Nat) := [(20, 1073741823, 4238)]
def zt_ic22 : List (Nat × Int32 × Nat) := [(200, 2147483639, 5031)]
def zt_ic23 : List (Nat × Int32 × Nat) := []
def zt_ic24 : List (Nat × Int32 × Nat) := []
def zt_ic25 : List (Nat × Int32 × Nat) := []
def zt_ic26 : List (Nat × Int32 × Nat) := [(264, 65536, 6191)]
def zt_ic27 : List (Nat × Int32 × Nat) := [(374, 65535, 6212)]
def zt_ic : List (List (Nat × Int32 × Nat)) := [zt_ic0, zt_ic1, zt_ic2, zt_ic3, zt_ic4, zt_ic5, zt_ic6, zt_ic7, zt_ic8, zt_ic9, zt_ic10, zt_ic11, zt_ic12, zt_ic13, zt_ic14, zt_ic15, zt_ic16, zt_ic17, zt_ic18, zt_ic19, zt_ic20, zt_ic21, zt_ic22, zt_ic23, zt_ic24, zt_ic25, zt_ic26, zt_ic27]
def zt_pl : List (List (Nat × Nat × Nat × Nat × Nat)) := [zt_pl0, zt_pl1, zt_pl2, zt_pl3, zt_pl4, zt_pl5, zt_pl6, zt_pl7, zt_pl8, zt_pl9, zt_pl10, zt_pl11, zt_pl12, zt_pl13, zt_pl14, zt_pl15, zt_pl16, zt_pl17, zt_pl18, zt_pl19, zt_pl20, zt_pl21, zt_pl22, zt_pl23, zt_pl24, zt_pl25, zt_pl26, zt_pl27]
def zt_lc : List (List (Nat × Int64 × Nat)) := [zt_lc0, zt_lc1, zt_lc2, zt_lc3, zt_lc4, zt_lc5, zt_lc6, zt_lc7, zt_lc8, zt_lc9, zt_lc10, zt_lc11, zt_lc12, zt_lc13, zt_lc14, zt_lc15, zt_lc16, zt_lc17, zt_lc18, zt_lc19, zt_lc20, zt_lc21, zt_lc22, zt_lc23, zt_lc24, zt_lc25, zt_lc26, zt_lc27]
/-- classes none of whose methods is the machine's own -/
def zt_pln : List Bool := [true, true, true, true, true, true, true, true, true, true, true, true, true, true, true, true, true, true, true, false, true, true, true, true, true, true, true, false]
/-- the class of an array's component: its place, or 999 -/
def zt_atc : List Nat := [10, 999, 999, 999, 999, 999, 0]
/-- is a field declared by the class itself -/
def zt_own : List (List Bool) := [[true, true, true, true], [false, false, false, false], [true, true, true], [true, true, true, true, true, true, true], [true, true], [true, true, true, true, true], [true, true], [true, true, true, true], [true, true, true, true, true, true, true], [true, true, true], [true, true, true, true, true, true], [true, true, true, true], [true, true, true, true, true, true]]
/-- the types of the fields -/
def zt_fty : List (List FieldType) := [[.array (.byte), .byte, .int, .boolean], [.array (.byte), .byte, .boolean, .int], [.object "ColumnVault$Sheet", .object "ColumnVault$Groups", .array (.long)], [.object "ColumnVault$Tokens", .object "ColumnVault$Sheet", .array (.long), .int, .int, .int, .int], [.array (.int), .int], [.object "ColumnVault$Sheet", .array (.long), .array (.long), .int, .int], [.array (.object "ColumnVault$Sheet"), .int], [.object "ColumnVault$Sheet", .int, .object "ColumnVault$Sheet", .int], [.int, .long, .object "ColumnVault$Node", .object "ColumnVault$Node", .object "ColumnVault$Node", .object "ColumnVault$Node", .object "ColumnVault$Node"], [.array (.int), .array (.int), .int], [.array (.int), .array (.long), .array (.int), .int, .int, .long], [.array (.int), .array (.int), .array (.long), .int], [.object "ColumnVault$History", .object "ColumnVault$FilterText", .object "ColumnVault$Tokens", .object "ColumnVault$Pairs", .object "ColumnVault$Groups", .object "ColumnVault$Checks"]]
/-- throws whose constructor calls its super by entry 13 -/
def zt_exn : List (Nat × Nat × Nat) := [(12, 314, 16)]
