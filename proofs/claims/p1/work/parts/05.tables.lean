/-- the words in pieces, for the places below -/
def zt_ch (j : Nat) : List Cond := match j with
  | 0 => k2_sels lw_privs
  | 1 => tables_1_1
  | 2 => tables_1_2
  | 3 => tables_1_3
  | 4 => tables_1_4
  | 5 => tables_1_5
  | 6 => tables_1_6
  | 7 => tables_1_7
  | 8 => tables_1_8
  | 9 => tables_1_9
  | 10 => tables_1_10
  | _ => []
def zt_wd (i : Nat) : Option Cond := (zt_ch (i / 1000))[i % 1000]?
theorem zt_ch_in {j : Nat} {w : Cond} (h : w ∈ zt_ch j) : w ∈ lw_tbl := by
  unfold zt_ch at h
  unfold lw_tbl tables_1
  split at h
  · simp only [List.mem_append]; simp only [h, true_or, or_true]
  · simp only [List.mem_append]; simp only [h, true_or, or_true]
  · simp only [List.mem_append]; simp only [h, true_or, or_true]
  · simp only [List.mem_append]; simp only [h, true_or, or_true]
  · simp only [List.mem_append]; simp only [h, true_or, or_true]
  · simp only [List.mem_append]; simp only [h, true_or, or_true]
  · simp only [List.mem_append]; simp only [h, true_or, or_true]
  · simp only [List.mem_append]; simp only [h, true_or, or_true]
  · simp only [List.mem_append]; simp only [h, true_or, or_true]
  · simp only [List.mem_append]; simp only [h, true_or, or_true]
  · simp only [List.mem_append]; simp only [h, true_or, or_true]
  · cases h
/-! ===== the tables (written by wip/zx/gen_tables.py out of the claim) ===== -/
def zt_T_TJ0 : u_T := fun k => match k with
  | 0 => ("java/lang/String", "value", "[B", true)
  | 1 => ("java/lang/String", "coder", "B", true)
  | 2 => ("java/lang/String", "hash", "I", false)
  | _ => ("java/lang/String", "hashIsZero", "Z", false)
def zt_T_TJ4 : u_T := fun k => match k with
  | 0 => ("java/lang/AbstractStringBuilder", "value", "[B", false)
  | 1 => ("java/lang/AbstractStringBuilder", "coder", "B", false)
  | 2 => ("java/lang/AbstractStringBuilder", "maybeLatin1", "Z", false)
  | _ => ("java/lang/AbstractStringBuilder", "count", "I", false)
def zt_T_TJ6 : u_T := fun k => match k with
  | _ => ("java/lang/Integer", "value", "I", true)
def zt_T_TJ13 : u_T := fun k => match k with
  | _ => ("java/lang/Long", "value", "J", true)
def zt_T_TJx4a65c : u_T := fun k => match k with
  | 0 => ("java/util/AbstractList", "modCount", "I", false)
  | 1 => ("java/util/ArrayList", "elementData", "[Ljava/lang/Object;", false)
  | _ => ("java/util/ArrayList", "size", "I", false)
def zt_T_TX0 : u_T := fun k => match k with
  | 0 => ("ColumnVault$Checks", "copy", "LColumnVault$Sheet;", true)
  | 1 => ("ColumnVault$Checks", "parted", "LColumnVault$Groups;", true)
  | _ => ("ColumnVault$Checks", "upTo", "[J", true)
def zt_T_TX1 : u_T := fun k => match k with
  | 0 => ("ColumnVault$FilterReader", "tokens", "LColumnVault$Tokens;", true)
  | 1 => ("ColumnVault$FilterReader", "sheet", "LColumnVault$Sheet;", true)
  | 2 => ("ColumnVault$FilterReader", "keys", "[J", true)
  | 3 => ("ColumnVault$FilterReader", "many", "I", false)
  | 4 => ("ColumnVault$FilterReader", "at", "I", false)
  | 5 => ("ColumnVault$FilterReader", "faultKind", "I", false)
  | _ => ("ColumnVault$FilterReader", "faultPlace", "I", false)
def zt_T_TX2 : u_T := fun k => match k with
  | 0 => ("ColumnVault$FilterText", "bytes", "[I", true)
  | _ => ("ColumnVault$FilterText", "length", "I", false)
def zt_T_TX3 : u_T := fun k => match k with
  | 0 => ("ColumnVault$Groups", "then", "LColumnVault$Sheet;", true)
  | 1 => ("ColumnVault$Groups", "keys", "[J", true)
  | 2 => ("ColumnVault$Groups", "members", "[J", true)
  | 3 => ("ColumnVault$Groups", "column", "I", false)
  | _ => ("ColumnVault$Groups", "many", "I", false)
def zt_T_TX4 : u_T := fun k => match k with
  | 0 => ("ColumnVault$History", "sheets", "[LColumnVault$Sheet;", true)
  | _ => ("ColumnVault$History", "now", "I", false)
def zt_T_TX5 : u_T := fun k => match k with
  | 0 => ("ColumnVault$JoinWays", "left", "LColumnVault$Sheet;", true)
  | 1 => ("ColumnVault$JoinWays", "column", "I", true)
  | 2 => ("ColumnVault$JoinWays", "right", "LColumnVault$Sheet;", true)
  | _ => ("ColumnVault$JoinWays", "other", "I", true)
def zt_T_TX6 : u_T := fun k => match k with
  | 0 => ("ColumnVault$Node", "form", "I", true)
  | 1 => ("ColumnVault$Node", "holds", "J", false)
  | 2 => ("ColumnVault$Node", "firstTold", "LColumnVault$Node;", false)
  | 3 => ("ColumnVault$Node", "lastTold", "LColumnVault$Node;", false)
  | 4 => ("ColumnVault$Node", "nextTold", "LColumnVault$Node;", false)
  | 5 => ("ColumnVault$Node", "firstByCounts", "LColumnVault$Node;", false)
  | _ => ("ColumnVault$Node", "nextByCounts", "LColumnVault$Node;", false)
def zt_T_TX7 : u_T := fun k => match k with
  | 0 => ("ColumnVault$Pairs", "lefts", "[I", true)
  | 1 => ("ColumnVault$Pairs", "rights", "[I", true)
  | _ => ("ColumnVault$Pairs", "many", "I", false)
def zt_T_TX8 : u_T := fun k => match k with
  | 0 => ("ColumnVault$Sheet", "kinds", "[I", true)
  | 1 => ("ColumnVault$Sheet", "keys", "[J", true)
  | 2 => ("ColumnVault$Sheet", "order", "[I", true)
  | 3 => ("ColumnVault$Sheet", "columns", "I", false)
  | 4 => ("ColumnVault$Sheet", "rows", "I", false)
  | _ => ("ColumnVault$Sheet", "chosen", "J", false)
def zt_T_TX9 : u_T := fun k => match k with
  | 0 => ("ColumnVault$Tokens", "forms", "[I", true)
  | 1 => ("ColumnVault$Tokens", "places", "[I", true)
  | 2 => ("ColumnVault$Tokens", "values", "[J", true)
  | _ => ("ColumnVault$Tokens", "many", "I", false)
def zt_T_TX10 : u_T := fun k => match k with
  | 0 => ("ColumnVault", "history", "LColumnVault$History;", true)
  | 1 => ("ColumnVault", "text", "LColumnVault$FilterText;", true)
  | 2 => ("ColumnVault", "tokens", "LColumnVault$Tokens;", true)
  | 3 => ("ColumnVault", "pairs", "LColumnVault$Pairs;", true)
  | 4 => ("ColumnVault", "groups", "LColumnVault$Groups;", true)
  | _ => ("ColumnVault", "checks", "LColumnVault$Checks;", true)
def zt_T_TX11 : u_T := fun k => match k with
  | 0 => ("ColumnVaultModel$Node", "sort", "I", true)
  | 1 => ("ColumnVaultModel$Node", "parts", "Ljava/util/List;", true)
  | 2 => ("ColumnVaultModel$Node", "column", "I", false)
  | _ => ("ColumnVaultModel$Node", "values", "Ljava/util/List;", true)
def zt_T_TX12 : u_T := fun k => match k with
  | 0 => ("ColumnVaultModel$Table", "kinds", "Ljava/util/List;", true)
  | 1 => ("ColumnVaultModel$Table", "rows", "Ljava/util/List;", true)
  | 2 => ("ColumnVaultModel$Table", "order", "Ljava/util/List;", true)
  | _ => ("ColumnVaultModel$Table", "chosen", "Ljava/util/List;", true)
def zt_T_TX13 : u_T := fun k => match k with
  | 0 => ("ColumnVaultModel", "thrown", "I", false)
  | 1 => ("ColumnVaultModel", "tables", "[LColumnVaultModel$Table;", false)
  | 2 => ("ColumnVaultModel", "versions", "Ljava/util/List;", true)
  | 3 => ("ColumnVaultModel", "version", "I", false)
  | 4 => ("ColumnVaultModel", "text", "[I", true)
  | 5 => ("ColumnVaultModel", "textMany", "I", false)
  | 6 => ("ColumnVaultModel", "at", "I", false)
  | 7 => ("ColumnVaultModel", "begin", "I", false)
  | 8 => ("ColumnVaultModel", "open", "I", false)
  | 9 => ("ColumnVaultModel", "errorKind", "I", false)
  | 10 => ("ColumnVaultModel", "errorPlace", "I", false)
  | 11 => ("ColumnVaultModel", "asked", "LColumnVaultModel$Table;", false)
  | 12 => ("ColumnVaultModel", "pairs", "Ljava/util/List;", true)
  | 13 => ("ColumnVaultModel", "groupTable", "LColumnVaultModel$Table;", false)
  | 14 => ("ColumnVaultModel", "groupColumn", "I", false)
  | _ => ("ColumnVaultModel", "groups", "Ljava/util/List;", false)
def zt_cl : List vw_C := [("java/lang/String", zt_T_TJ0, 4), ("java/lang/StringBuilder", zt_T_TJ4, 4), ("java/lang/Integer", zt_T_TJ6, 1), ("java/lang/Long", zt_T_TJ13, 1), ("java/util/ArrayList", zt_T_TJx4a65c, 3), ("ColumnVault$Checks", zt_T_TX0, 3), ("ColumnVault$FilterReader", zt_T_TX1, 7), ("ColumnVault$FilterText", zt_T_TX2, 2), ("ColumnVault$Groups", zt_T_TX3, 5), ("ColumnVault$History", zt_T_TX4, 2), ("ColumnVault$JoinWays", zt_T_TX5, 4), ("ColumnVault$Node", zt_T_TX6, 7), ("ColumnVault$Pairs", zt_T_TX7, 3), ("ColumnVault$Sheet", zt_T_TX8, 6), ("ColumnVault$Tokens", zt_T_TX9, 4), ("ColumnVault", zt_T_TX10, 6), ("ColumnVaultModel$Node", zt_T_TX11, 4), ("ColumnVaultModel$Table", zt_T_TX12, 4), ("ColumnVaultModel", zt_T_TX13, 16), ("java/lang/IndexOutOfBoundsException", fun _ => ("", "", "", false), 0), ("java/lang/IllegalArgumentException", fun _ => ("", "", "", false), 0), ("java/lang/IllegalStateException", fun _ => ("", "", "", false), 0), ("java/util/NoSuchElementException", fun _ => ("", "", "", false), 0)]
/-- the first exception class -/
def zt_x0 : Nat := 19
def zt_sz : List Nat := [4, 4, 1, 1, 3, 3, 7, 2, 5, 2, 4, 7, 3, 6, 4, 6, 4, 4, 16, 6, 6, 6, 6]
def zt_lay : List (List Nat) := [[10049, 10051, 10053, 10055], [9111, 9113, 9115, 9117], [7112], [8177], [6132, 6128, 6130], [1196, 1198, 1200], [3136, 3138, 3140, 3142, 3144, 3146, 3148], [1114, 1116], [1172, 1174, 1176, 1178, 1180], [1099, 1101], [5023, 5025, 5027, 5029], [3218, 3220, 3222, 3224, 3226, 3228, 3230], [1148, 1150, 1152], [1081, 1083, 1085, 1087, 1089, 1091], [1129, 1131, 1133, 1135], [1209, 1211, 1213, 1215, 1217, 1219], [8094, 8096, 8098, 8100], [6143, 6145, 6147, 6149], [7043, 7045, 7047, 7049, 7051, 7053, 7055, 7057, 7059, 7061, 7063, 7065, 7067, 7069, 7071, 7073], [], [], [], []]
/-- the places of instantiable, initialized -/
def zt_ini : List (Nat × Nat) := [(9238, 1034), (9091, 1040), (7103, 1027), (8171, 1030), (6110, 1013), (1184, 1008), (3122, 1031), (1105, 1004), (1156, 1007), (1051, 1002), (5014, 1038), (3200, 1032), (1139, 1006), (1058, 1003), (1120, 1005), (1043, 1001), (8079, 1033), (6104, 1010), (6097, 1009), (2009, 1023), (2078, 1024), (2094, 1025), (5156, 1041)]
/-- the component types of arrays, with the place of their word -/
def zt_at : List FieldType := [.object "ColumnVault$Sheet", .int, .long, .byte, .object "ColumnVaultModel$Table", .object "java/lang/Object", .boolean, .double]
def zt_ath : List Nat := [1057, 1094, 1095, 2076, 6103, 7015, 8239, 10161]
def zt_on : List String := ["java/lang/String", "java/lang/StringBuilder", "java/lang/Integer", "java/lang/Long", "java/util/ArrayList", "ColumnVault$Checks", "ColumnVault$FilterReader", "ColumnVault$FilterText", "ColumnVault$Groups", "ColumnVault$History", "ColumnVault$JoinWays", "ColumnVault$Node", "ColumnVault$Pairs", "ColumnVault$Sheet", "ColumnVault$Tokens", "ColumnVault", "ColumnVaultModel$Node", "ColumnVaultModel$Table", "ColumnVaultModel", "java/lang/IndexOutOfBoundsException", "java/lang/IllegalArgumentException", "java/lang/IllegalStateException", "java/util/NoSuchElementException", "ColumnVaultLaw", "java/lang/Math", "java/lang/StringLatin1", "jdk/internal/util/Preconditions", "java/lang/StringUTF16", "java/util/AbstractList", "java/util/AbstractCollection", "java/util/Objects", "jdk/internal/util/ArraysSupport", "java/util/Arrays", "java/lang/Number", "java/lang/Boolean", "java/lang/AbstractStringBuilder"]
/-- a method: name, bytes, locals, answer, table, its class's place, parameters, the place of its code's word; then the places of 'static' or 'instanceMethod', of 'selects', of 'initialized' -/
abbrev zx_M : Type := MethodName × ByteArray × Nat × Option FieldType × List (Nat × Nat × Nat × Nat) × Nat × Nat × Nat × Nat × Nat × Nat
def zt_m0 : List zx_M := [
  (⟨"ColumnVaultLaw", "law", "([I)Z"⟩, code, 9, some (.boolean), [], 23, 1, 0, 0, 99999, 0),
  (⟨"ColumnVault", "<init>", "()V"⟩, prog_1_method_1_code, 1, none, [], 15, 0, 0, 2, 99999, 0),
  (⟨"ColumnVault$History", "<init>", "()V"⟩, prog_6_method_1_code, 2, none, [], 9, 0, 0, 2, 99999, 0),
  (⟨"ColumnVault$Sheet", "<init>", "()V"⟩, prog_10_method_1_code, 1, none, [], 13, 0, 0, 2, 99999, 0),
  (⟨"ColumnVault$FilterText", "<init>", "()V"⟩, prog_4_method_1_code, 1, none, [], 7, 0, 0, 2, 99999, 0),
  (⟨"ColumnVault$Tokens", "<init>", "()V"⟩, prog_11_method_1_code, 1, none, [], 14, 0, 0, 2, 99999, 0),
  (⟨"ColumnVault$Pairs", "<init>", "()V"⟩, prog_9_method_1_code, 1, none, [], 12, 0, 0, 2, 99999, 0),
  (⟨"ColumnVault$Groups", "<init>", "()V"⟩, prog_5_method_1_code, 1, none, [], 8, 0, 0, 2, 99999, 0),
  (⟨"ColumnVault$Checks", "<init>", "()V"⟩, prog_2_method_1_code, 1, none, [], 5, 0, 0, 2, 99999, 0),
  (⟨"ColumnVault", "version", "()I"⟩, prog_1_method_10_code, 1, some (.int), [], 15, 0, 0, 0, 0, 0),
  (⟨"ColumnVault", "clearText", "()I"⟩, prog_1_method_23_code, 2, some (.int), [], 15, 0, 0, 0, 0, 0),
  (⟨"ColumnVaultLaw", "addColumn", "(LColumnVault;II[J)I"⟩, method_3_code, 5, some (.int), [(0, 10, 13, 13), (0, 10, 17, 15), (0, 10, 21, 17)], 23, 4, 0, 1, 99999, 0),
  (⟨"ColumnVault", "addColumn", "(II)I"⟩, prog_1_method_2_code, 4, some (.int), [], 15, 2, 0, 0, 0, 0),
  (⟨"ColumnVault", "sheetOf", "(I)LColumnVault$Sheet;"⟩, prog_1_method_41_code, 3, some (.object "ColumnVault$Sheet"), [], 15, 1, 0, 0, 0, 0),
  (⟨"ColumnVault$History", "sheetIn", "(II)LColumnVault$Sheet;"⟩, prog_6_method_3_code, 3, some (.object "ColumnVault$Sheet"), [], 9, 2, 0, 0, 0, 0),
  (⟨"ColumnVault", "nextSheetOf", "(I)LColumnVault$Sheet;"⟩, prog_1_method_43_code, 2, some (.object "ColumnVault$Sheet"), [], 15, 1, 0, 0, 0, 0),
  (⟨"ColumnVault$History", "makeNextFrom", "(I)V"⟩, prog_6_method_4_code, 5, none, [], 9, 1, 0, 0, 0, 0),
  (⟨"ColumnVault$Sheet", "copyFrom", "(LColumnVault$Sheet;)V"⟩, prog_10_method_2_code, 2, none, [], 13, 1, 0, 0, 0, 0),
  (⟨"ColumnVault$Sheet", "appendColumn", "(I)I"⟩, prog_10_method_11_code, 4, some (.int), [], 13, 1, 0, 0, 0, 0),
  (⟨"ColumnVault$Sheet", "putKey", "(IIJ)V"⟩, prog_10_method_8_code, 5, none, [], 13, 3, 0, 0, 0, 0),
  (⟨"ColumnVault$Sheet", "hasColumn", "(I)Z"⟩, prog_10_method_3_code, 2, some (.boolean), [], 13, 1, 0, 0, 0, 0),
  (⟨"ColumnVault$Sheet", "hasRow", "(I)Z"⟩, prog_10_method_4_code, 2, some (.boolean), [], 13, 1, 0, 0, 0, 0),
  (⟨"ColumnVaultLaw", "addRow", "(LColumnVault;I[J)I"⟩, method_4_code, 4, some (.int), [(0, 9, 12, 13), (0, 9, 15, 17)], 23, 3, 0, 1, 99999, 0),
  (⟨"ColumnVault", "addRow", "(I)I"⟩, prog_1_method_3_code, 2, some (.int), [], 15, 1, 0, 0, 0, 0),
  (⟨"ColumnVault$Sheet", "appendRow", "()I"⟩, prog_10_method_12_code, 3, some (.int), [], 13, 0, 0, 0, 0, 0),
  (⟨"ColumnVaultLaw", "fill", "(LColumnVault;IIIII[J)I"⟩, method_5_code, 8, some (.int), [(0, 16, 19, 13), (0, 16, 23, 15), (0, 16, 27, 17)], 23, 7, 0, 1, 99999, 0),
  (⟨"ColumnVault", "fill", "(IIIII)I"⟩, prog_1_method_4_code, 9, some (.int), [], 15, 5, 0, 0, 0, 0),
  (⟨"ColumnVault", "sheetWith", "(II)LColumnVault$Sheet;"⟩, prog_1_method_42_code, 4, some (.object "ColumnVault$Sheet"), [], 15, 2, 0, 0, 0, 0),
  (⟨"ColumnVault", "requireColumn", "(LColumnVault$Sheet;I)V"⟩, prog_1_method_47_code, 2, none, [], 15, 2, 0, 1, 99999, 0),
  (⟨"ColumnVault$Sheet", "kindOf", "(I)I"⟩, prog_10_method_6_code, 2, some (.int), [], 13, 1, 0, 0, 0, 0),
  (⟨"ColumnVault", "isNumber", "(J)Z"⟩, prog_1_method_53_code, 2, some (.boolean), [], 15, 1, 0, 1, 99999, 0),
  (⟨"ColumnVaultLaw", "set", "(LColumnVault;IIIJ[J)I"⟩, method_6_code, 8, some (.int), [(0, 21, 24, 13), (0, 21, 28, 15)], 23, 6, 0, 1, 99999, 0),
  (⟨"ColumnVault", "set", "(IIIJ)Z"⟩, prog_1_method_5_code, 12, some (.boolean), [], 15, 4, 0, 0, 0, 0),
  (⟨"ColumnVault", "requireRow", "(LColumnVault$Sheet;I)V"⟩, prog_1_method_48_code, 2, none, [], 15, 2, 0, 1, 99999, 0),
  (⟨"ColumnVault", "requireValue", "(IJ)V"⟩, prog_1_method_50_code, 3, none, [], 15, 2, 0, 1, 99999, 0),
  (⟨"ColumnVault", "isWord", "(J)Z"⟩, prog_1_method_54_code, 3, some (.boolean), [], 15, 1, 0, 1, 99999, 0),
  (⟨"ColumnVault", "isLetter", "(I)Z"⟩, prog_1_method_55_code, 1, some (.boolean), [], 15, 1, 0, 1, 99999, 0),
  (⟨"ColumnVault$Sheet", "keyAt", "(II)J"⟩, prog_10_method_7_code, 3, some (.long), [], 13, 2, 0, 0, 0, 0),
  (⟨"ColumnVault", "keyOf", "(IJ)J"⟩, prog_1_method_57_code, 6, some (.long), [], 15, 2, 0, 1, 99999, 0),
  (⟨"ColumnVaultLaw", "remove", "(LColumnVault;II[J)I"⟩, method_7_code, 5, some (.int), [(0, 10, 13, 13)], 23, 4, 0, 1, 99999, 0),
  (⟨"ColumnVault", "remove", "(II)I"⟩, prog_1_method_6_code, 4, some (.int), [], 15, 2, 0, 0, 0, 0),
  (⟨"ColumnVault$Sheet", "dropRow", "(I)V"⟩, prog_10_method_13_code, 4, none, [], 13, 1, 0, 0, 0, 0),
  (⟨"ColumnVault$Sheet", "dropFromOrder", "(I)V"⟩, prog_10_method_14_code, 5, none, [], 13, 1, 0, 0, 0, 0),
  (⟨"ColumnVaultLaw", "get", "(LColumnVault;III[J)I"⟩, method_8_code, 6, some (.int), [(0, 11, 14, 13)], 23, 5, 0, 1, 99999, 0),
  (⟨"ColumnVault", "get", "(III)J"⟩, prog_1_method_7_code, 5, some (.long), [], 15, 3, 0, 0, 0, 0),
  (⟨"ColumnVault$Sheet", "valueOf", "(II)J"⟩, prog_10_method_9_code, 3, some (.long), [], 13, 2, 0, 0, 0, 0),
  (⟨"ColumnVault", "toldOf", "(IJ)J"⟩, prog_1_method_58_code, 6, some (.long), [], 15, 2, 0, 1, 99999, 0),
  (⟨"ColumnVaultLaw", "size", "(LColumnVault;II[J)I"⟩, method_9_code, 5, some (.int), [(0, 10, 13, 13), (0, 10, 17, 15)], 23, 4, 0, 1, 99999, 0),
  (⟨"ColumnVault", "size", "(II)I"⟩, prog_1_method_8_code, 4, some (.int), [], 15, 2, 0, 0, 0, 0),
  (⟨"java/lang/Long", "bitCount", "(J)I"⟩, prog_30_method_50_code, 2, some (.int), [], 3, 1, 0, 1, 99999, 0),
  (⟨"ColumnVault$Sheet", "missingValues", "()I"⟩, prog_10_method_10_code, 3, some (.int), [], 13, 0, 0, 0, 0, 0),
  (⟨"ColumnVault$Sheet", "rowsWith", "(IJ)J"⟩, prog_10_method_24_code, 4, some (.long), [], 13, 2, 0, 0, 0, 0),
  (⟨"ColumnVault$Sheet", "rowsFromTo", "(IJJ)J"⟩, prog_10_method_25_code, 11, some (.long), [], 13, 3, 0, 0, 0, 0),
  (⟨"ColumnVaultLaw", "kind", "(LColumnVault;II[J)I"⟩, method_10_code, 5, some (.int), [(0, 10, 13, 13)], 23, 4, 0, 1, 99999, 0),
  (⟨"ColumnVault", "kind", "(II)I"⟩, prog_1_method_9_code, 3, some (.int), [], 15, 2, 0, 0, 0, 0),
  (⟨"ColumnVaultLaw", "back", "(LColumnVault;I[J)I"⟩, method_11_code, 4, some (.int), [(0, 9, 12, 13)], 23, 3, 0, 1, 99999, 0),
  (⟨"ColumnVault", "back", "(I)I"⟩, prog_1_method_11_code, 2, some (.int), [], 15, 1, 0, 0, 0, 0),
  (⟨"ColumnVault$History", "keeps", "(I)Z"⟩, prog_6_method_2_code, 2, some (.boolean), [], 9, 1, 0, 0, 0, 0),
  (⟨"ColumnVaultLaw", "sort", "(LColumnVault;IIZZ[J)I"⟩, method_12_code, 7, some (.int), [(0, 14, 17, 13)], 23, 6, 0, 1, 99999, 0),
  (⟨"ColumnVault", "sort", "(IIZZ)I"⟩, prog_1_method_12_code, 7, some (.int), [], 15, 4, 0, 0, 0, 0)]
def zt_m1 : List zx_M := [
  (⟨"ColumnVault$Sheet", "orderBy", "(IZZ)V"⟩, prog_10_method_18_code, 9, none, [], 13, 3, 0, 0, 0, 0),
  (⟨"ColumnVault", "isAhead", "(JJZZ)Z"⟩, prog_1_method_59_code, 6, some (.boolean), [], 15, 4, 0, 1, 99999, 0),
  (⟨"ColumnVault$Sheet", "placesUnlike", "(LColumnVault$Sheet;)I"⟩, prog_10_method_17_code, 4, some (.int), [], 13, 1, 0, 0, 0, 0),
  (⟨"ColumnVault$Sheet", "rowInOrder", "(I)I"⟩, prog_10_method_15_code, 2, some (.int), [], 13, 1, 0, 0, 0, 0),
  (⟨"ColumnVaultLaw", "rowAt", "(LColumnVault;II[J)I"⟩, method_13_code, 5, some (.int), [(0, 10, 13, 13)], 23, 4, 0, 1, 99999, 0),
  (⟨"ColumnVault", "rowAt", "(II)I"⟩, prog_1_method_13_code, 4, some (.int), [], 15, 2, 0, 0, 0, 0),
  (⟨"ColumnVault", "requirePlace", "(LColumnVault$Sheet;I)V"⟩, prog_1_method_49_code, 2, none, [], 15, 2, 0, 1, 99999, 0),
  (⟨"ColumnVaultLaw", "placeOf", "(LColumnVault;II[J)I"⟩, method_14_code, 5, some (.int), [(0, 10, 13, 13)], 23, 4, 0, 1, 99999, 0),
  (⟨"ColumnVault", "placeOf", "(II)I"⟩, prog_1_method_14_code, 4, some (.int), [], 15, 2, 0, 0, 0, 0),
  (⟨"ColumnVault$Sheet", "placeInOrder", "(I)I"⟩, prog_10_method_16_code, 3, some (.int), [], 13, 1, 0, 0, 0, 0),
  (⟨"ColumnVaultLaw", "isChosen", "(LColumnVault;II[J)I"⟩, method_15_code, 5, some (.int), [(0, 17, 20, 13)], 23, 4, 0, 1, 99999, 0),
  (⟨"ColumnVault", "isChosen", "(II)Z"⟩, prog_1_method_15_code, 4, some (.boolean), [], 15, 2, 0, 0, 0, 0),
  (⟨"ColumnVault", "holdsRow", "(JI)Z"⟩, prog_1_method_60_code, 3, some (.boolean), [], 15, 2, 0, 1, 99999, 0),
  (⟨"ColumnVaultLaw", "choose", "(LColumnVault;II[J)I"⟩, method_16_code, 5, some (.int), [(0, 10, 13, 13), (0, 10, 17, 15), (0, 10, 21, 17)], 23, 4, 0, 1, 99999, 0),
  (⟨"ColumnVault", "choose", "(II)I"⟩, prog_1_method_16_code, 6, some (.int), [], 15, 2, 0, 0, 0, 0),
  (⟨"ColumnVault", "filterOf", "(I)LColumnVault$Node;"⟩, prog_1_method_45_code, 3, some (.object "ColumnVault$Node"), [], 15, 1, 0, 0, 0, 0),
  (⟨"ColumnVault", "readerOf", "(I)LColumnVault$FilterReader;"⟩, prog_1_method_44_code, 2, some (.object "ColumnVault$FilterReader"), [], 15, 1, 0, 0, 0, 0),
  (⟨"ColumnVault$FilterReader", "<init>", "(LColumnVault$Tokens;LColumnVault$Sheet;)V"⟩, prog_3_method_1_code, 3, none, [], 6, 2, 0, 2, 99999, 0),
  (⟨"ColumnVault$FilterReader", "readWhole", "(LColumnVault$FilterText;)LColumnVault$Node;"⟩, prog_3_method_2_code, 3, some (.object "ColumnVault$Node"), [], 6, 1, 0, 0, 0, 0),
  (⟨"ColumnVault$Tokens", "readFrom", "(LColumnVault$FilterText;)V"⟩, prog_11_method_2_code, 4, none, [], 14, 1, 0, 0, 0, 0),
  (⟨"ColumnVault$FilterText", "byteAt", "(I)I"⟩, prog_4_method_2_code, 2, some (.int), [], 7, 1, 0, 0, 0, 0),
  (⟨"ColumnVault$Tokens", "readToken", "(LColumnVault$FilterText;I)I"⟩, prog_11_method_3_code, 5, some (.int), [], 14, 2, 0, 0, 0, 0),
  (⟨"ColumnVault$Tokens", "put", "(IIJ)V"⟩, prog_11_method_6_code, 5, none, [], 14, 3, 0, 0, 0, 0),
  (⟨"ColumnVault", "isDigit", "(I)Z"⟩, prog_1_method_56_code, 1, some (.boolean), [], 15, 1, 0, 1, 99999, 0),
  (⟨"ColumnVault$Tokens", "readWord", "(LColumnVault$FilterText;I)I"⟩, prog_11_method_4_code, 6, some (.int), [], 14, 2, 0, 0, 0, 0),
  (⟨"ColumnVault$Tokens", "readNumber", "(LColumnVault$FilterText;I)I"⟩, prog_11_method_5_code, 7, some (.int), [], 14, 2, 0, 0, 0, 0),
  (⟨"java/lang/Math", "min", "(JJ)J"⟩, prog_32_method_70_code, 4, some (.long), [], 24, 2, 0, 1, 99999, 0),
  (⟨"java/lang/Math", "max", "(II)I"⟩, prog_32_method_65_code, 2, some (.int), [], 24, 2, 0, 1, 99999, 0),
  (⟨"ColumnVault$FilterReader", "readFilter", "(I)LColumnVault$Node;"⟩, prog_3_method_5_code, 6, some (.object "ColumnVault$Node"), [], 6, 1, 0, 0, 0, 0),
  (⟨"ColumnVault$Node", "<init>", "(IJ)V"⟩, prog_8_method_1_code, 4, none, [], 11, 2, 0, 2, 99999, 0),
  (⟨"ColumnVault$FilterReader", "readPart", "(I)LColumnVault$Node;"⟩, prog_3_method_6_code, 6, some (.object "ColumnVault$Node"), [], 6, 1, 0, 0, 0, 0),
  (⟨"ColumnVault$Sheet", "allRows", "()J"⟩, prog_10_method_22_code, 1, some (.long), [], 13, 0, 0, 0, 0, 0),
  (⟨"ColumnVault$FilterReader", "readPiece", "(I)LColumnVault$Node;"⟩, prog_3_method_7_code, 4, some (.object "ColumnVault$Node"), [], 6, 1, 0, 0, 0, 0),
  (⟨"ColumnVault$FilterReader", "takes", "(I)Z"⟩, prog_3_method_4_code, 2, some (.boolean), [], 6, 1, 0, 0, 0, 0),
  (⟨"ColumnVault$Tokens", "formAt", "(I)I"⟩, prog_11_method_7_code, 2, some (.int), [], 14, 1, 0, 0, 0, 0),
  (⟨"ColumnVault$Tokens", "placeAt", "(I)I"⟩, prog_11_method_8_code, 2, some (.int), [], 14, 1, 0, 0, 0, 0),
  (⟨"ColumnVault$FilterReader", "fail", "(II)LColumnVault$Node;"⟩, prog_3_method_3_code, 3, some (.object "ColumnVault$Node"), [], 6, 2, 0, 0, 0, 0),
  (⟨"ColumnVault$FilterReader", "readBrackets", "(I)LColumnVault$Node;"⟩, prog_3_method_8_code, 3, some (.object "ColumnVault$Node"), [], 6, 1, 0, 0, 0, 0),
  (⟨"ColumnVault$FilterReader", "readTest", "()LColumnVault$Node;"⟩, prog_3_method_9_code, 3, some (.object "ColumnVault$Node"), [], 6, 0, 0, 0, 0, 0),
  (⟨"ColumnVault$Tokens", "valueAt", "(I)J"⟩, prog_11_method_9_code, 2, some (.long), [], 14, 1, 0, 0, 0, 0),
  (⟨"ColumnVault$FilterReader", "askedBy", "(I)I"⟩, prog_3_method_10_code, 5, some (.int), [], 6, 1, 0, 0, 0, 0),
  (⟨"ColumnVault$FilterReader", "readValues", "(II)Z"⟩, prog_3_method_11_code, 6, some (.boolean), [], 6, 2, 0, 0, 0, 0),
  (⟨"ColumnVault$FilterReader", "isValueNext", "()Z"⟩, prog_3_method_12_code, 2, some (.boolean), [], 6, 0, 0, 0, 0, 0),
  (⟨"ColumnVault$FilterReader", "readValue", "(I)Z"⟩, prog_3_method_13_code, 6, some (.boolean), [], 6, 1, 0, 0, 0, 0),
  (⟨"ColumnVault$FilterReader", "rowsOfTest", "(II)J"⟩, prog_3_method_14_code, 6, some (.long), [], 6, 2, 0, 0, 0, 0),
  (⟨"ColumnVault$Node", "turn", "(J)V"⟩, prog_8_method_2_code, 3, none, [], 11, 1, 0, 0, 0, 0),
  (⟨"ColumnVault$Node", "put", "(LColumnVault$Node;)V"⟩, prog_8_method_3_code, 2, none, [], 11, 1, 0, 0, 0, 0),
  (⟨"ColumnVault$Node", "putByCounts", "(LColumnVault$Node;)V"⟩, prog_8_method_4_code, 4, none, [], 11, 1, 0, 0, 0, 0),
  (⟨"ColumnVault$Node", "isFirst", "(LColumnVault$Node;LColumnVault$Node;)Z"⟩, prog_8_method_5_code, 5, some (.boolean), [], 11, 2, 0, 0, 0, 0),
  (⟨"ColumnVaultLaw", "turnChoice", "(LColumnVault;I[J)I"⟩, method_17_code, 4, some (.int), [(0, 9, 12, 13)], 23, 3, 0, 1, 99999, 0),
  (⟨"ColumnVault", "turnChoice", "(I)I"⟩, prog_1_method_17_code, 3, some (.int), [], 15, 1, 0, 0, 0, 0),
  (⟨"ColumnVaultLaw", "count", "(LColumnVault;I[J)I"⟩, method_18_code, 4, some (.int), [(0, 9, 12, 13), (0, 9, 15, 17)], 23, 3, 0, 1, 99999, 0),
  (⟨"ColumnVault", "count", "(I)I"⟩, prog_1_method_18_code, 2, some (.int), [], 15, 1, 0, 0, 0, 0),
  (⟨"ColumnVaultLaw", "reads", "(LColumnVault;IZ[J)I"⟩, method_19_code, 5, some (.int), [(0, 10, 13, 13), (0, 10, 17, 17)], 23, 4, 0, 1, 99999, 0),
  (⟨"ColumnVault", "reads", "(IZ)I"⟩, prog_1_method_19_code, 3, some (.int), [], 15, 2, 0, 0, 0, 0),
  (⟨"ColumnVault", "readsOf", "(LColumnVault$Node;JZI)I"⟩, prog_1_method_63_code, 9, some (.int), [], 15, 4, 0, 1, 99999, 0),
  (⟨"ColumnVaultLaw", "errorKind", "(LColumnVault;I[J)I"⟩, method_20_code, 4, some (.int), [(0, 9, 12, 13)], 23, 3, 0, 1, 99999, 0),
  (⟨"ColumnVault", "errorKind", "(I)I"⟩, prog_1_method_20_code, 3, some (.int), [], 15, 1, 0, 0, 0, 0),
  (⟨"ColumnVaultLaw", "errorPlace", "(LColumnVault;I[J)I"⟩, method_21_code, 4, some (.int), [(0, 9, 12, 13)], 23, 3, 0, 1, 99999, 0),
  (⟨"ColumnVault", "errorPlace", "(I)I"⟩, prog_1_method_21_code, 3, some (.int), [], 15, 1, 0, 0, 0, 0)]
def zt_m2 : List zx_M := [
  (⟨"ColumnVaultLaw", "type", "(LColumnVault;J[J)I"⟩, method_22_code, 5, some (.int), [(0, 9, 12, 17)], 23, 3, 0, 1, 99999, 0),
  (⟨"ColumnVault", "type", "(J)I"⟩, prog_1_method_22_code, 3, some (.int), [], 15, 1, 0, 0, 0, 0),
  (⟨"ColumnVault", "bytesIn", "(J)I"⟩, prog_1_method_61_code, 4, some (.int), [], 15, 1, 0, 1, 99999, 0),
  (⟨"ColumnVault$FilterText", "appendBytes", "(J)V"⟩, prog_4_method_4_code, 4, none, [], 7, 1, 0, 0, 0, 0),
  (⟨"ColumnVault$FilterText", "append", "(I)V"⟩, prog_4_method_3_code, 2, none, [], 7, 1, 0, 0, 0, 0),
  (⟨"ColumnVaultLaw", "example", "(LColumnVault;I[J)I"⟩, method_23_code, 4, some (.int), [(0, 9, 12, 15)], 23, 3, 0, 1, 99999, 0),
  (⟨"ColumnVault", "example", "(I)I"⟩, prog_1_method_24_code, 2, some (.int), [], 15, 1, 0, 0, 0, 0),
  (⟨"ColumnVault$FilterText", "replaceBy", "(Ljava/lang/String;)V"⟩, prog_4_method_5_code, 3, none, [], 7, 1, 0, 0, 0, 0),
  (⟨"java/lang/String", "length", "()I"⟩, prog_35_method_54_code, 1, some (.int), [], 0, 0, 0, 0, 0, 0),
  (⟨"java/lang/String", "coder", "()B"⟩, prog_35_method_152_code, 1, some (.byte), [], 0, 0, 0, 0, 0, 0),
  (⟨"java/lang/String", "charAt", "(I)C"⟩, prog_35_method_56_code, 2, some (.char), [], 0, 1, 0, 0, 0, 0),
  (⟨"java/lang/String", "isLatin1", "()Z"⟩, prog_35_method_154_code, 1, some (.boolean), [], 0, 0, 0, 0, 0, 0),
  (⟨"java/lang/StringLatin1", "charAt", "([BI)C"⟩, prog_37_method_2_code, 2, some (.char), [], 25, 2, 0, 1, 99999, 0),
  (⟨"java/lang/String", "checkIndex", "(II)V"⟩, prog_35_method_155_code, 2, none, [], 0, 2, 0, 1, 99999, 0),
  (⟨"jdk/internal/util/Preconditions", "checkIndex", "(IILjava/util/function/BiFunction;)I"⟩, prog_54_method_11_code, 3, some (.int), [], 26, 3, 0, 1, 99999, 0),
  (⟨"java/lang/StringUTF16", "charAt", "([BI)C"⟩, prog_38_method_83_code, 2, some (.char), [], 27, 2, 0, 1, 99999, 0),
  (⟨"java/lang/StringUTF16", "checkIndex", "(I[B)V"⟩, prog_38_method_91_code, 2, none, [], 27, 2, 0, 1, 99999, 0),
  (⟨"java/lang/StringUTF16", "length", "([B)I"⟩, prog_38_method_6_code, 1, some (.int), [], 27, 1, 0, 1, 99999, 0),
  (⟨"java/lang/StringUTF16", "getChar", "([BI)C"⟩, prog_38_method_5_code, 2, some (.char), [], 27, 2, 0, 1, 99999, 0),
  (⟨"ColumnVaultLaw", "join", "(LColumnVault;IIIII[J)I"⟩, method_24_code, 8, some (.int), [(0, 16, 19, 13), (0, 16, 23, 15)], 23, 7, 0, 1, 99999, 0),
  (⟨"ColumnVault", "join", "(IIIII)I"⟩, prog_1_method_25_code, 8, some (.int), [], 15, 5, 0, 0, 0, 0),
  (⟨"ColumnVault", "requireSameKind", "(II)V"⟩, prog_1_method_52_code, 2, none, [], 15, 2, 0, 1, 99999, 0),
  (⟨"ColumnVault$Pairs", "make", "(LColumnVault$Sheet;ILColumnVault$Sheet;II)V"⟩, prog_9_method_2_code, 11, none, [], 12, 5, 0, 0, 0, 0),
  (⟨"ColumnVault$Pairs", "putRow", "(IJI)V"⟩, prog_9_method_3_code, 6, none, [], 12, 3, 0, 0, 0, 0),
  (⟨"ColumnVault$Pairs", "put", "(II)V"⟩, prog_9_method_4_code, 3, none, [], 12, 2, 0, 0, 0, 0),
  (⟨"ColumnVaultLaw", "pairAt", "(LColumnVault;IZ[J)I"⟩, method_25_code, 5, some (.int), [(0, 10, 13, 13)], 23, 4, 0, 1, 99999, 0),
  (⟨"ColumnVault", "pairAt", "(IZ)I"⟩, prog_1_method_26_code, 3, some (.int), [], 15, 2, 0, 0, 0, 0),
  (⟨"ColumnVault$Pairs", "rowOf", "(IZ)I"⟩, prog_9_method_5_code, 3, some (.int), [], 12, 2, 0, 0, 0, 0),
  (⟨"ColumnVaultLaw", "joinErrors", "(LColumnVault;IIII[J)I"⟩, method_26_code, 7, some (.int), [(0, 14, 17, 13), (0, 14, 21, 15)], 23, 6, 0, 1, 99999, 0),
  (⟨"ColumnVault", "joinErrors", "(IIII)I"⟩, prog_1_method_27_code, 7, some (.int), [], 15, 4, 0, 0, 0, 0),
  (⟨"ColumnVault$JoinWays", "<init>", "(LColumnVault$Sheet;ILColumnVault$Sheet;I)V"⟩, prog_7_method_1_code, 5, none, [], 10, 4, 0, 2, 99999, 0),
  (⟨"ColumnVault$JoinWays", "pairsNotToldByAll", "()I"⟩, prog_7_method_2_code, 9, some (.int), [], 10, 0, 0, 0, 0, 0),
  (⟨"ColumnVault$Sheet", "risingRows", "(IJ)[I"⟩, prog_10_method_28_code, 12, some (.array (.int)), [], 13, 2, 0, 0, 0, 0),
  (⟨"ColumnVault$Sheet", "knownRows", "(I)J"⟩, prog_10_method_23_code, 2, some (.long), [], 13, 1, 0, 0, 0, 0),
  (⟨"ColumnVault$JoinWays", "byMerging", "([I[I)[J"⟩, prog_7_method_3_code, 9, some (.array (.long)), [], 10, 2, 0, 0, 0, 0),
  (⟨"ColumnVault$JoinWays", "rowsWithKeyFrom", "([IIJ)J"⟩, prog_7_method_6_code, 8, some (.long), [], 10, 3, 0, 0, 0, 0),
  (⟨"ColumnVault$JoinWays", "byLookingUp", "([I)[J"⟩, prog_7_method_4_code, 6, some (.array (.long)), [], 10, 1, 0, 0, 0, 0),
  (⟨"ColumnVault$JoinWays", "firstPlaceOf", "([IJ)I"⟩, prog_7_method_5_code, 8, some (.int), [], 10, 2, 0, 0, 0, 0),
  (⟨"ColumnVault$JoinWays", "byTrying", "()[J"⟩, prog_7_method_7_code, 6, some (.array (.long)), [], 10, 0, 0, 0, 0, 0),
  (⟨"ColumnVaultLaw", "group", "(LColumnVault;II[J)I"⟩, method_27_code, 5, some (.int), [(0, 10, 13, 13)], 23, 4, 0, 1, 99999, 0),
  (⟨"ColumnVault", "group", "(II)I"⟩, prog_1_method_28_code, 3, some (.int), [], 15, 2, 0, 0, 0, 0),
  (⟨"ColumnVault$Groups", "make", "(LColumnVault$Sheet;I)V"⟩, prog_5_method_2_code, 4, none, [], 8, 2, 0, 0, 0, 0),
  (⟨"ColumnVault$Groups", "put", "(I)V"⟩, prog_5_method_3_code, 5, none, [], 8, 1, 0, 0, 0, 0),
  (⟨"ColumnVault$Groups", "open", "(IJ)V"⟩, prog_5_method_4_code, 5, none, [], 8, 2, 0, 0, 0, 0),
  (⟨"ColumnVaultLaw", "groupAt", "(LColumnVault;II[J)I"⟩, method_28_code, 5, some (.int), [(0, 9, 12, 13), (0, 9, 16, 15)], 23, 4, 0, 1, 99999, 0),
  (⟨"ColumnVault", "groupAt", "(II)J"⟩, prog_1_method_29_code, 3, some (.long), [], 15, 2, 0, 0, 0, 0),
  (⟨"ColumnVault", "requireGroup", "(I)V"⟩, prog_1_method_46_code, 2, none, [], 15, 1, 0, 0, 0, 0),
  (⟨"ColumnVault$Groups", "valueAt", "(I)J"⟩, prog_5_method_6_code, 2, some (.long), [], 8, 1, 0, 0, 0, 0),
  (⟨"ColumnVault$Groups", "keyOfGroup", "(I)J"⟩, prog_5_method_5_code, 2, some (.long), [], 8, 1, 0, 0, 0, 0),
  (⟨"ColumnVault$Groups", "rowsIn", "(I)J"⟩, prog_5_method_7_code, 2, some (.long), [], 8, 1, 0, 0, 0, 0),
  (⟨"ColumnVault$Sheet", "firstOf", "(J)I"⟩, prog_10_method_19_code, 4, some (.int), [], 13, 1, 0, 0, 0, 0),
  (⟨"ColumnVault$Sheet", "lastOf", "(J)I"⟩, prog_10_method_20_code, 4, some (.int), [], 13, 1, 0, 0, 0, 0),
  (⟨"ColumnVaultLaw", "total", "(LColumnVault;III[J)I"⟩, method_29_code, 6, some (.int), [(0, 11, 14, 13), (0, 11, 18, 15), (0, 11, 22, 107)], 23, 5, 0, 1, 99999, 0),
  (⟨"ColumnVault", "total", "(III)J"⟩, prog_1_method_30_code, 5, some (.long), [], 15, 3, 0, 0, 0, 0),
  (⟨"ColumnVault", "totalOf", "(LColumnVault$Sheet;IJI)J"⟩, prog_1_method_62_code, 8, some (.long), [], 15, 4, 0, 1, 99999, 0),
  (⟨"ColumnVault$Sheet", "sumOf", "(IJ)J"⟩, prog_10_method_27_code, 9, some (.long), [], 13, 2, 0, 0, 0, 0),
  (⟨"ColumnVault$Sheet", "differentKeys", "(I[I)I"⟩, prog_10_method_29_code, 5, some (.int), [], 13, 2, 0, 0, 0, 0),
  (⟨"ColumnVaultLaw", "groupTotal", "(LColumnVault;III[J)I"⟩, method_30_code, 6, some (.int), [(0, 11, 14, 13), (0, 11, 18, 15), (0, 11, 22, 107)], 23, 5, 0, 1, 99999, 0),
  (⟨"ColumnVault", "groupTotal", "(III)J"⟩, prog_1_method_31_code, 4, some (.long), [], 15, 3, 0, 0, 0, 0),
  (⟨"ColumnVaultLaw", "running", "(LColumnVault;III[J)I"⟩, method_31_code, 6, some (.int), [(0, 11, 14, 13), (0, 11, 18, 15)], 23, 5, 0, 1, 99999, 0)]
def zt_m3 : List zx_M := [
  (⟨"ColumnVault", "running", "(III)J"⟩, prog_1_method_32_code, 5, some (.long), [], 15, 3, 0, 0, 0, 0),
  (⟨"ColumnVault", "requireNumbers", "(LColumnVault$Sheet;I)V"⟩, prog_1_method_51_code, 2, none, [], 15, 2, 0, 1, 99999, 0),
  (⟨"ColumnVault$Sheet", "rowsUpTo", "(I)J"⟩, prog_10_method_21_code, 5, some (.long), [], 13, 1, 0, 0, 0, 0),
  (⟨"ColumnVaultLaw", "rank", "(LColumnVault;IIII[J)I"⟩, method_32_code, 7, some (.int), [(0, 14, 17, 13), (0, 14, 21, 107)], 23, 6, 0, 1, 99999, 0),
  (⟨"ColumnVault", "rank", "(IIII)I"⟩, prog_1_method_33_code, 8, some (.int), [], 15, 4, 0, 0, 0, 0),
  (⟨"ColumnVaultLaw", "previous", "(LColumnVault;III[J)I"⟩, method_33_code, 6, some (.int), [(0, 12, 15, 13)], 23, 5, 0, 1, 99999, 0),
  (⟨"ColumnVault", "previous", "(III)I"⟩, prog_1_method_34_code, 6, some (.int), [], 15, 3, 0, 0, 0, 0),
  (⟨"ColumnVaultLaw", "between", "(LColumnVault;IIJJ[J)I"⟩, method_34_code, 9, some (.int), [(0, 14, 17, 13), (0, 14, 21, 15)], 23, 6, 0, 1, 99999, 0),
  (⟨"ColumnVault", "between", "(IIJJ)I"⟩, prog_1_method_35_code, 9, some (.int), [], 15, 4, 0, 0, 0, 0),
  (⟨"ColumnVaultLaw", "nearest", "(LColumnVault;IIJZ[J)I"⟩, method_35_code, 8, some (.int), [(0, 13, 16, 13), (0, 13, 20, 15), (0, 13, 24, 107)], 23, 6, 0, 1, 99999, 0),
  (⟨"ColumnVault", "nearest", "(IIJZ)J"⟩, prog_1_method_36_code, 10, some (.long), [], 15, 4, 0, 0, 0, 0),
  (⟨"ColumnVault$Sheet", "nearestKey", "(IJZ)J"⟩, prog_10_method_26_code, 11, some (.long), [], 13, 3, 0, 0, 0, 0),
  (⟨"ColumnVaultLaw", "alike", "(LColumnVault;III[J)I"⟩, method_36_code, 6, some (.int), [(0, 12, 15, 13), (0, 12, 19, 15)], 23, 5, 0, 1, 99999, 0),
  (⟨"ColumnVault", "alike", "(III)I"⟩, prog_1_method_37_code, 6, some (.int), [], 15, 3, 0, 0, 0, 0),
  (⟨"ColumnVault$Sheet", "hasKindsOf", "(LColumnVault$Sheet;)Z"⟩, prog_10_method_5_code, 4, some (.boolean), [], 13, 1, 0, 0, 0, 0),
  (⟨"ColumnVault$Sheet", "rowsLeftBy", "(LColumnVault$Sheet;)I"⟩, prog_10_method_34_code, 7, some (.int), [], 13, 1, 0, 0, 0, 0),
  (⟨"ColumnVault$Sheet", "chosenAlike", "(ILColumnVault$Sheet;)J"⟩, prog_10_method_31_code, 6, some (.long), [], 13, 2, 0, 0, 0, 0),
  (⟨"ColumnVault$Sheet", "isAlike", "(ILColumnVault$Sheet;I)Z"⟩, prog_10_method_30_code, 5, some (.boolean), [], 13, 3, 0, 0, 0, 0),
  (⟨"ColumnVault$Sheet", "differentRows", "()J"⟩, prog_10_method_32_code, 4, some (.long), [], 13, 0, 0, 0, 0, 0),
  (⟨"ColumnVault$Sheet", "differentRowsOnlyHere", "(LColumnVault$Sheet;)I"⟩, prog_10_method_33_code, 6, some (.int), [], 13, 1, 0, 0, 0, 0),
  (⟨"ColumnVaultLaw", "errors", "(LColumnVault;I[J)I"⟩, method_37_code, 4, some (.int), [(0, 9, 12, 13)], 23, 3, 0, 1, 99999, 0),
  (⟨"ColumnVault", "errors", "(I)I"⟩, prog_1_method_38_code, 2, some (.int), [], 15, 1, 0, 0, 0, 0),
  (⟨"ColumnVault$Checks", "failuresOf", "(LColumnVault$Sheet;)I"⟩, prog_2_method_2_code, 5, some (.int), [], 5, 1, 0, 0, 0, 0),
  (⟨"ColumnVault$Checks", "isInBothOrders", "(LColumnVault$Sheet;II)Z"⟩, prog_2_method_3_code, 5, some (.boolean), [], 5, 3, 0, 0, 0, 0),
  (⟨"ColumnVault$Checks", "standsAhead", "(LColumnVault$Sheet;IIII)Z"⟩, prog_2_method_4_code, 10, some (.boolean), [], 5, 5, 0, 0, 0, 0),
  (⟨"ColumnVault$Checks", "groupFailures", "(LColumnVault$Sheet;I)I"⟩, prog_2_method_5_code, 6, some (.int), [], 5, 2, 0, 0, 0, 0),
  (⟨"ColumnVault$Checks", "sumOfGroups", "(I)J"⟩, prog_2_method_6_code, 5, some (.long), [], 5, 1, 0, 0, 0, 0),
  (⟨"ColumnVault$Checks", "rangeFailures", "(LColumnVault$Sheet;I)I"⟩, prog_2_method_7_code, 5, some (.int), [], 5, 2, 0, 0, 0, 0),
  (⟨"ColumnVault$Checks", "failuresFrom", "(IJ)I"⟩, prog_2_method_8_code, 7, some (.int), [], 5, 2, 0, 0, 0, 0),
  (⟨"ColumnVaultLaw", "meanOf", "(LColumnVault;II[D)I"⟩, method_38_code, 5, some (.int), [(0, 9, 12, 13), (0, 9, 16, 15)], 23, 4, 0, 1, 99999, 0),
  (⟨"ColumnVault", "meanOf", "(II)D"⟩, prog_1_method_39_code, 5, some (.double), [], 15, 2, 0, 0, 0, 0),
  (⟨"ColumnVaultLaw", "chosenShare", "(LColumnVault;I[D)I"⟩, method_39_code, 4, some (.int), [(0, 9, 12, 13)], 23, 3, 0, 1, 99999, 0),
  (⟨"ColumnVault", "chosenShare", "(I)F"⟩, prog_1_method_40_code, 3, some (.float), [], 15, 1, 0, 0, 0, 0),
  (⟨"ColumnVaultModel", "thrown", "()I"⟩, prog_13_method_1_code, 1, some (.int), [], 18, 0, 0, 0, 0, 0),
  (⟨"ColumnVaultModel", "<init>", "()V"⟩, prog_13_method_8_code, 2, none, [], 18, 0, 0, 2, 99999, 0),
  (⟨"ColumnVaultModel$Table", "<init>", "()V"⟩, prog_15_method_1_code, 1, none, [], 17, 0, 0, 2, 99999, 0),
  (⟨"java/util/ArrayList", "<init>", "()V"⟩, prog_45_method_2_code, 1, none, [], 4, 0, 0, 2, 99999, 0),
  (⟨"java/util/AbstractList", "<init>", "()V"⟩, prog_44_method_1_code, 1, none, [], 28, 0, 0, 2, 99999, 0),
  (⟨"java/util/AbstractCollection", "<init>", "()V"⟩, prog_43_method_1_code, 1, none, [], 29, 0, 0, 2, 99999, 0),
  (⟨"ColumnVaultModel", "copies", "([LColumnVaultModel$Table;)[LColumnVaultModel$Table;"⟩, prog_13_method_9_code, 3, some (.array (.object "ColumnVaultModel$Table")), [], 18, 1, 0, 1, 99999, 0),
  (⟨"ColumnVaultModel$Table", "copy", "()LColumnVaultModel$Table;"⟩, prog_15_method_2_code, 5, some (.object "ColumnVaultModel$Table"), [], 17, 0, 0, 0, 0, 0),
  (⟨"java/util/ArrayList", "size", "()I"⟩, prog_45_method_8_code, 1, some (.int), [], 4, 0, 0, 0, 99999, 0),
  (⟨"java/util/ArrayList", "get", "(I)Ljava/lang/Object;"⟩, prog_45_method_20_code, 2, some (.object "java/lang/Object"), [], 4, 1, 0, 0, 99999, 0),
  (⟨"java/util/Objects", "checkIndex", "(II)I"⟩, prog_50_method_17_code, 2, some (.int), [], 30, 2, 0, 1, 99999, 0),
  (⟨"java/util/ArrayList", "elementData", "(I)Ljava/lang/Object;"⟩, prog_45_method_18_code, 2, some (.object "java/lang/Object"), [], 4, 1, 0, 0, 0, 0),
  (⟨"java/util/ArrayList", "add", "(Ljava/lang/Object;)Z"⟩, prog_45_method_25_code, 2, some (.boolean), [], 4, 1, 0, 0, 99999, 0),
  (⟨"java/util/ArrayList", "add", "(Ljava/lang/Object;[Ljava/lang/Object;I)V"⟩, prog_45_method_24_code, 4, none, [], 4, 3, 0, 0, 0, 0),
  (⟨"java/util/ArrayList", "grow", "()[Ljava/lang/Object;"⟩, prog_45_method_7_code, 1, some (.array (.object "java/lang/Object")), [], 4, 0, 0, 0, 0, 0),
  (⟨"java/util/ArrayList", "grow", "(I)[Ljava/lang/Object;"⟩, prog_45_method_6_code, 4, some (.array (.object "java/lang/Object")), [], 4, 1, 0, 0, 0, 0),
  (⟨"jdk/internal/util/ArraysSupport", "newLength", "(III)I"⟩, prog_53_method_27_code, 4, some (.int), [], 31, 3, 0, 1, 99999, 0),
  (⟨"jdk/internal/util/ArraysSupport", "hugeLength", "(II)I"⟩, prog_53_method_28_code, 3, some (.int), [], 31, 2, 0, 1, 99999, 0),
  (⟨"java/util/Arrays", "copyOf", "([Ljava/lang/Object;I)[Ljava/lang/Object;"⟩, prog_46_method_119_code, 2, some (.array (.object "java/lang/Object")), [], 32, 2, 0, 1, 99999, 0),
  (⟨"java/util/Arrays", "copyOf", "([Ljava/lang/Object;ILjava/lang/Class;)[Ljava/lang/Object;"⟩, prog_46_method_120_code, 4, some (.array (.object "java/lang/Object")), [], 32, 3, 0, 1, 99999, 0),
  (⟨"java/lang/Math", "min", "(II)I"⟩, prog_32_method_69_code, 2, some (.int), [], 24, 2, 0, 1, 99999, 0),
  (⟨"ColumnVaultModel", "addColumn", "(II)I"⟩, prog_13_method_14_code, 5, some (.int), [], 18, 2, 0, 0, 0, 0),
  (⟨"ColumnVaultModel", "isTable", "(I)Z"⟩, prog_13_method_11_code, 1, some (.boolean), [], 18, 1, 0, 1, 99999, 0),
  (⟨"ColumnVaultModel", "in", "(JJJ)Z"⟩, prog_13_method_2_code, 6, some (.boolean), [], 18, 3, 0, 1, 99999, 0),
  (⟨"ColumnVaultModel$Table", "columns", "()I"⟩, prog_15_method_3_code, 1, some (.int), [], 17, 0, 0, 0, 0, 0),
  (⟨"ColumnVaultModel", "passes", "(ZZZ)Z"⟩, prog_13_method_3_code, 4, some (.boolean), [], 18, 3, 0, 0, 0, 0),
  (⟨"java/lang/Integer", "valueOf", "(I)Ljava/lang/Integer;"⟩, prog_27_method_22_code, 1, some (.object "java/lang/Integer"), [], 2, 1, 0, 1, 99999, 0)]
def zt_m4 : List zx_M := [
  (⟨"java/lang/Integer", "<init>", "(I)V"⟩, prog_27_method_23_code, 2, none, [], 2, 1, 0, 2, 99999, 0),
  (⟨"java/lang/Number", "<init>", "()V"⟩, prog_33_method_1_code, 1, none, [], 33, 0, 0, 2, 99999, 0),
  (⟨"ColumnVaultModel", "changed", "(I)I"⟩, prog_13_method_10_code, 4, some (.int), [], 18, 1, 0, 0, 0, 0),
  (⟨"java/util/ArrayList", "remove", "(I)Ljava/lang/Object;"⟩, prog_45_method_29_code, 4, some (.object "java/lang/Object"), [], 4, 1, 0, 0, 99999, 0),
  (⟨"java/util/ArrayList", "fastRemove", "([Ljava/lang/Object;I)V"⟩, prog_45_method_39_code, 4, none, [], 4, 2, 0, 0, 0, 0),
  (⟨"ColumnVaultModel", "addRow", "(I)I"⟩, prog_13_method_15_code, 3, some (.int), [], 18, 1, 0, 0, 0, 0),
  (⟨"ColumnVaultModel$Table", "rows", "()I"⟩, prog_15_method_4_code, 1, some (.int), [], 17, 0, 0, 0, 0, 0),
  (⟨"ColumnVaultModel$Table", "addRow", "()I"⟩, prog_15_method_9_code, 3, some (.int), [], 17, 0, 0, 0, 0, 0),
  (⟨"java/lang/Boolean", "valueOf", "(Z)Ljava/lang/Boolean;"⟩, prog_19_method_5_code, 1, some (.object "java/lang/Boolean"), [], 34, 1, 0, 1, 99999, 0),
  (⟨"ColumnVaultModel", "fill", "(IIIII)I"⟩, prog_13_method_16_code, 10, some (.int), [], 18, 5, 0, 0, 0, 0),
  (⟨"ColumnVaultModel", "isColumn", "(II)Z"⟩, prog_13_method_12_code, 3, some (.boolean), [], 18, 2, 0, 0, 0, 0),
  (⟨"ColumnVaultModel$Table", "kind", "(I)I"⟩, prog_15_method_7_code, 2, some (.int), [], 17, 1, 0, 0, 0, 0),
  (⟨"java/lang/Integer", "intValue", "()I"⟩, prog_27_method_27_code, 1, some (.int), [], 2, 0, 0, 0, 0, 0),
  (⟨"ColumnVaultModel", "set", "(IIIJ)Z"⟩, prog_13_method_17_code, 8, some (.boolean), [], 18, 4, 0, 0, 0, 0),
  (⟨"ColumnVaultModel", "isRow", "(II)Z"⟩, prog_13_method_13_code, 3, some (.boolean), [], 18, 2, 0, 0, 0, 0),
  (⟨"ColumnVaultModel", "isValue", "(IJ)Z"⟩, prog_13_method_5_code, 3, some (.boolean), [], 18, 2, 0, 1, 99999, 0),
  (⟨"ColumnVaultModel", "isText", "(J)Z"⟩, prog_13_method_4_code, 5, some (.boolean), [], 18, 1, 0, 1, 99999, 0),
  (⟨"ColumnVaultModel$Table", "value", "(II)J"⟩, prog_15_method_5_code, 3, some (.long), [], 17, 2, 0, 0, 0, 0),
  (⟨"ColumnVaultModel", "remove", "(II)I"⟩, prog_13_method_18_code, 3, some (.int), [], 18, 2, 0, 0, 0, 0),
  (⟨"ColumnVaultModel$Table", "remove", "(I)V"⟩, prog_15_method_10_code, 8, none, [], 17, 1, 0, 0, 0, 0),
  (⟨"java/lang/Boolean", "booleanValue", "()Z"⟩, prog_19_method_4_code, 1, some (.boolean), [], 34, 0, 0, 0, 0, 0),
  (⟨"ColumnVaultModel$Table", "placeOf", "(I)I"⟩, prog_15_method_11_code, 3, some (.int), [], 17, 1, 0, 0, 0, 0),
  (⟨"java/util/ArrayList", "set", "(ILjava/lang/Object;)Ljava/lang/Object;"⟩, prog_45_method_23_code, 4, some (.object "java/lang/Object"), [], 4, 2, 0, 0, 99999, 0),
  (⟨"ColumnVaultModel", "get", "(III)J"⟩, prog_13_method_19_code, 4, some (.long), [], 18, 3, 0, 0, 0, 0),
  (⟨"ColumnVaultModel", "size", "(II)I"⟩, prog_13_method_21_code, 4, some (.int), [], 18, 2, 0, 0, 0, 0),
  (⟨"ColumnVaultModel$Table", "chosenRows", "()I"⟩, prog_15_method_12_code, 3, some (.int), [], 17, 0, 0, 0, 0, 0),
  (⟨"ColumnVaultModel$Table", "isChosen", "(I)Z"⟩, prog_15_method_8_code, 2, some (.boolean), [], 17, 1, 0, 0, 0, 0),
  (⟨"ColumnVaultModel", "missing", "(LColumnVaultModel$Table;)I"⟩, prog_13_method_20_code, 4, some (.int), [], 18, 1, 0, 1, 99999, 0),
  (⟨"ColumnVaultModel$Table", "isThere", "(II)Z"⟩, prog_15_method_6_code, 3, some (.boolean), [], 17, 2, 0, 0, 0, 0),
  (⟨"ColumnVaultModel", "kind", "(II)I"⟩, prog_13_method_22_code, 3, some (.int), [], 18, 2, 0, 0, 0, 0),
  (⟨"ColumnVaultModel", "version", "()I"⟩, prog_13_method_23_code, 1, some (.int), [], 18, 0, 0, 0, 0, 0),
  (⟨"ColumnVaultModel", "back", "(I)I"⟩, prog_13_method_24_code, 4, some (.int), [], 18, 1, 0, 0, 0, 0),
  (⟨"ColumnVaultModel", "sort", "(IIZZ)I"⟩, prog_13_method_25_code, 5, some (.int), [], 18, 4, 0, 0, 0, 0),
  (⟨"ColumnVaultModel$Table", "sort", "(IZZ)I"⟩, prog_15_method_14_code, 9, some (.int), [], 17, 3, 0, 0, 0, 0),
  (⟨"ColumnVaultModel$Table", "isAhead", "(IIIZZ)Z"⟩, prog_15_method_13_code, 7, some (.boolean), [], 17, 5, 0, 0, 0, 0),
  (⟨"ColumnVaultModel", "compared", "(IJJ)I"⟩, prog_13_method_7_code, 9, some (.int), [], 18, 3, 0, 1, 99999, 0),
  (⟨"ColumnVaultModel", "alphabetical", "(J)J"⟩, prog_13_method_6_code, 4, some (.long), [], 18, 1, 0, 1, 99999, 0),
  (⟨"ColumnVaultModel", "rowAt", "(II)I"⟩, prog_13_method_26_code, 3, some (.int), [], 18, 2, 0, 0, 0, 0),
  (⟨"ColumnVaultModel", "placeOf", "(II)I"⟩, prog_13_method_27_code, 3, some (.int), [], 18, 2, 0, 0, 0, 0),
  (⟨"ColumnVaultModel", "isChosen", "(II)Z"⟩, prog_13_method_28_code, 3, some (.boolean), [], 18, 2, 0, 0, 0, 0),
  (⟨"ColumnVaultModel", "choose", "(II)I"⟩, prog_13_method_29_code, 9, some (.int), [], 18, 2, 0, 0, 0, 0),
  (⟨"ColumnVaultModel", "filter", "(I)LColumnVaultModel$Node;"⟩, prog_13_method_45_code, 3, some (.object "ColumnVaultModel$Node"), [], 18, 1, 0, 0, 0, 0),
  (⟨"ColumnVaultModel", "filterPart", "(I)LColumnVaultModel$Node;"⟩, prog_13_method_36_code, 5, some (.object "ColumnVaultModel$Node"), [], 18, 1, 0, 0, 0, 0),
  (⟨"ColumnVaultModel$Node", "<init>", "(I)V"⟩, prog_14_method_1_code, 2, none, [], 16, 1, 0, 2, 99999, 0),
  (⟨"ColumnVaultModel", "piece", "(I)LColumnVaultModel$Node;"⟩, prog_13_method_37_code, 3, some (.object "ColumnVaultModel$Node"), [], 18, 1, 0, 0, 0, 0),
  (⟨"ColumnVaultModel", "next", "()I"⟩, prog_13_method_35_code, 1, some (.int), [], 18, 0, 0, 0, 0, 0),
  (⟨"ColumnVaultModel", "signAt", "(I)I"⟩, prog_13_method_32_code, 2, some (.int), [], 18, 1, 0, 0, 0, 0),
  (⟨"ColumnVaultModel", "opposite", "(I)LColumnVaultModel$Node;"⟩, prog_13_method_38_code, 4, some (.object "ColumnVaultModel$Node"), [], 18, 1, 0, 0, 0, 0),
  (⟨"ColumnVaultModel", "fails", "(II)V"⟩, prog_13_method_31_code, 3, none, [], 18, 2, 0, 0, 0, 0),
  (⟨"ColumnVaultModel", "brackets", "()LColumnVaultModel$Node;"⟩, prog_13_method_39_code, 2, some (.object "ColumnVaultModel$Node"), [], 18, 0, 0, 0, 0, 0),
  (⟨"ColumnVaultModel", "test", "()LColumnVaultModel$Node;"⟩, prog_13_method_42_code, 4, some (.object "ColumnVaultModel$Node"), [], 18, 0, 0, 0, 0, 0),
  (⟨"ColumnVaultModel", "isDigit", "(I)Z"⟩, prog_13_method_33_code, 1, some (.boolean), [], 18, 1, 0, 1, 99999, 0),
  (⟨"ColumnVaultModel", "sortOfTest", "()I"⟩, prog_13_method_41_code, 2, some (.int), [], 18, 0, 0, 0, 0, 0),
  (⟨"ColumnVaultModel", "isWord", "(Ljava/lang/String;)Z"⟩, prog_13_method_40_code, 3, some (.boolean), [], 18, 1, 0, 0, 0, 0),
  (⟨"ColumnVaultModel", "isLetter", "(I)Z"⟩, prog_13_method_34_code, 1, some (.boolean), [], 18, 1, 0, 1, 99999, 0),
  (⟨"ColumnVaultModel", "value", "(LColumnVaultModel$Node;)V"⟩, prog_13_method_44_code, 8, none, [], 18, 1, 0, 0, 0, 0),
  (⟨"ColumnVaultModel", "isValueNext", "()Z"⟩, prog_13_method_43_code, 2, some (.boolean), [], 18, 0, 0, 0, 0, 0),
  (⟨"java/lang/Long", "valueOf", "(J)Ljava/lang/Long;"⟩, prog_30_method_24_code, 3, some (.object "java/lang/Long"), [], 3, 1, 0, 1, 99999, 0),
  (⟨"java/lang/Long", "<init>", "(J)V"⟩, prog_30_method_26_code, 3, none, [], 3, 1, 0, 2, 99999, 0),
  (⟨"ColumnVaultModel$Node", "holds", "(LColumnVaultModel$Table;I)Z"⟩, prog_14_method_2_code, 6, some (.boolean), [], 16, 2, 0, 0, 0, 0)]
def zt_m5 : List zx_M := [
  (⟨"ColumnVaultModel$Node", "holdsTest", "(LColumnVaultModel$Table;I)Z"⟩, prog_14_method_4_code, 5, some (.boolean), [], 16, 2, 0, 0, 0, 0),
  (⟨"ColumnVaultModel$Node", "than", "(LColumnVaultModel$Table;II)I"⟩, prog_14_method_3_code, 4, some (.int), [], 16, 3, 0, 0, 0, 0),
  (⟨"java/lang/Long", "longValue", "()J"⟩, prog_30_method_31_code, 1, some (.long), [], 3, 0, 0, 0, 0, 0),
  (⟨"ColumnVaultModel", "turnChoice", "(I)I"⟩, prog_13_method_30_code, 5, some (.int), [], 18, 1, 0, 0, 0, 0),
  (⟨"ColumnVaultModel", "count", "(I)I"⟩, prog_13_method_46_code, 3, some (.int), [], 18, 1, 0, 0, 0, 0),
  (⟨"ColumnVaultModel$Node", "count", "(LColumnVaultModel$Table;)I"⟩, prog_14_method_5_code, 4, some (.int), [], 16, 1, 0, 0, 0, 0),
  (⟨"ColumnVaultModel", "reads", "(IZ)I"⟩, prog_13_method_47_code, 6, some (.int), [], 18, 2, 0, 0, 0, 0),
  (⟨"ColumnVaultModel$Node", "reads", "(LColumnVaultModel$Table;[ZZ)I"⟩, prog_14_method_7_code, 10, some (.int), [], 16, 3, 0, 0, 0, 0),
  (⟨"ColumnVaultModel$Node", "next", "(LColumnVaultModel$Table;[ZZ)I"⟩, prog_14_method_6_code, 8, some (.int), [], 16, 3, 0, 0, 0, 0),
  (⟨"ColumnVaultModel", "errorKind", "(I)I"⟩, prog_13_method_48_code, 3, some (.int), [], 18, 1, 0, 0, 0, 0),
  (⟨"ColumnVaultModel", "errorPlace", "(I)I"⟩, prog_13_method_49_code, 3, some (.int), [], 18, 1, 0, 0, 0, 0),
  (⟨"ColumnVaultModel", "type", "(J)I"⟩, prog_13_method_50_code, 6, some (.int), [], 18, 1, 0, 0, 0, 0),
  (⟨"ColumnVaultModel", "clearText", "()I"⟩, prog_13_method_51_code, 2, some (.int), [], 18, 0, 0, 0, 0, 0),
  (⟨"ColumnVaultModel", "example", "(I)I"⟩, prog_13_method_52_code, 4, some (.int), [], 18, 1, 0, 0, 0, 0),
  (⟨"ColumnVaultModel", "join", "(IIIII)I"⟩, prog_13_method_56_code, 12, some (.int), [], 18, 5, 0, 0, 0, 0),
  (⟨"ColumnVaultModel", "areColumns", "(IIII)Z"⟩, prog_13_method_53_code, 5, some (.boolean), [], 18, 4, 0, 0, 0, 0),
  (⟨"ColumnVaultModel", "areOfOneKind", "(IIII)Z"⟩, prog_13_method_54_code, 5, some (.boolean), [], 18, 4, 0, 0, 0, 0),
  (⟨"java/util/ArrayList", "clear", "()V"⟩, prog_45_method_40_code, 4, none, [], 4, 0, 0, 0, 99999, 0),
  (⟨"ColumnVaultModel", "arePartners", "(LColumnVaultModel$Table;IILColumnVaultModel$Table;II)Z"⟩, prog_13_method_55_code, 7, some (.boolean), [], 18, 6, 0, 0, 0, 0),
  (⟨"ColumnVaultModel", "pairAt", "(IZ)I"⟩, prog_13_method_57_code, 3, some (.int), [], 18, 2, 0, 0, 0, 0),
  (⟨"ColumnVaultModel", "joinErrors", "(IIII)I"⟩, prog_13_method_58_code, 11, some (.int), [], 18, 4, 0, 0, 0, 0),
  (⟨"ColumnVaultModel", "group", "(II)I"⟩, prog_13_method_60_code, 3, some (.int), [], 18, 2, 0, 0, 0, 0),
  (⟨"ColumnVaultModel", "grouped", "(LColumnVaultModel$Table;I)Ljava/util/List;"⟩, prog_13_method_59_code, 7, some (.object "java/util/List"), [], 18, 2, 0, 1, 99999, 0),
  (⟨"ColumnVaultModel$Table", "areAlike", "(III)Z"⟩, prog_15_method_15_code, 4, some (.boolean), [], 17, 3, 0, 0, 0, 0),
  (⟨"java/util/ArrayList", "add", "(ILjava/lang/Object;)V"⟩, prog_45_method_26_code, 5, none, [], 4, 2, 0, 0, 99999, 0),
  (⟨"java/util/ArrayList", "rangeCheckForAdd", "(I)V"⟩, prog_45_method_45_code, 2, none, [], 4, 1, 0, 0, 0, 0),
  (⟨"java/util/ArrayList", "outOfBoundsMsg", "(I)Ljava/lang/String;"⟩, prog_45_method_46_code, 2, some (.object "java/lang/String"), [], 4, 1, 0, 0, 0, 0),
  (⟨"java/lang/StringBuilder", "<init>", "()V"⟩, prog_36_method_1_code, 1, none, [], 1, 0, 0, 2, 99999, 0),
  (⟨"java/lang/AbstractStringBuilder", "<init>", "(I)V"⟩, prog_17_method_2_code, 2, none, [], 35, 1, 0, 2, 99999, 0),
  (⟨"java/lang/StringUTF16", "newBytesFor", "(I)[B"⟩, prog_38_method_2_code, 1, some (.array (.byte)), [], 27, 1, 0, 1, 99999, 0),
  (⟨"java/lang/StringUTF16", "newBytesLength", "(I)I"⟩, prog_38_method_3_code, 1, some (.int), [], 27, 1, 0, 1, 99999, 0),
  (⟨"java/lang/StringBuilder", "append", "(Ljava/lang/String;)Ljava/lang/StringBuilder;"⟩, prog_36_method_7_code, 2, some (.object "java/lang/StringBuilder"), [], 1, 1, 0, 0, 0, 0),
  (⟨"java/lang/AbstractStringBuilder", "append", "(Ljava/lang/String;)Ljava/lang/AbstractStringBuilder;"⟩, prog_17_method_22_code, 3, some (.object "java/lang/AbstractStringBuilder"), [], 35, 1, 0, 0, 99999, 0),
  (⟨"java/lang/AbstractStringBuilder", "appendNull", "()Ljava/lang/AbstractStringBuilder;"⟩, prog_17_method_26_code, 3, some (.object "java/lang/AbstractStringBuilder"), [], 35, 0, 0, 0, 99999, 0),
  (⟨"java/lang/AbstractStringBuilder", "ensureCapacityInternal", "(I)V"⟩, prog_17_method_9_code, 3, none, [], 35, 1, 0, 0, 99999, 0),
  (⟨"java/lang/AbstractStringBuilder", "newCapacity", "(I)I"⟩, prog_17_method_10_code, 6, some (.int), [], 35, 1, 0, 0, 99999, 0),
  (⟨"java/util/Arrays", "copyOf", "([BI)[B"⟩, prog_46_method_121_code, 3, some (.array (.byte)), [], 32, 2, 0, 1, 99999, 0),
  (⟨"java/lang/AbstractStringBuilder", "isLatin1", "()Z"⟩, prog_17_method_68_code, 1, some (.boolean), [], 35, 0, 0, 0, 99999, 0),
  (⟨"java/lang/StringUTF16", "putCharsAt", "([BICCCC)I"⟩, prog_38_method_81_code, 7, some (.int), [], 27, 6, 0, 1, 99999, 0),
  (⟨"java/lang/StringUTF16", "checkBoundsBeginEnd", "(II[B)V"⟩, prog_38_method_93_code, 3, none, [], 27, 3, 0, 1, 99999, 0),
  (⟨"java/lang/String", "checkBoundsBeginEnd", "(III)V"⟩, prog_35_method_158_code, 3, none, [], 0, 3, 0, 1, 99999, 0),
  (⟨"jdk/internal/util/Preconditions", "checkFromToIndex", "(IIILjava/util/function/BiFunction;)I"⟩, prog_54_method_12_code, 4, some (.int), [], 26, 4, 0, 1, 99999, 0),
  (⟨"java/lang/StringUTF16", "putChar", "([BII)V"⟩, prog_38_method_4_code, 3, none, [], 27, 3, 0, 1, 99999, 0),
  (⟨"java/lang/AbstractStringBuilder", "putStringAt", "(ILjava/lang/String;)V"⟩, prog_17_method_73_code, 3, none, [], 35, 2, 0, 0, 99999, 0),
  (⟨"java/lang/AbstractStringBuilder", "inflateIfNeededFor", "(Ljava/lang/String;)V"⟩, prog_17_method_71_code, 2, none, [], 35, 1, 0, 0, 99999, 0),
  (⟨"java/lang/AbstractStringBuilder", "inflate", "()V"⟩, prog_17_method_11_code, 2, none, [], 35, 0, 0, 0, 99999, 0),
  (⟨"java/lang/StringLatin1", "inflate", "([BI[BII)V"⟩, prog_37_method_50_code, 5, none, [], 25, 5, 0, 1, 99999, 0),
  (⟨"java/lang/StringUTF16", "inflate", "([BI[BII)V"⟩, prog_38_method_86_code, 6, none, [], 27, 5, 0, 1, 99999, 0),
  (⟨"java/lang/StringUTF16", "checkBoundsOffCount", "(II[B)V"⟩, prog_38_method_94_code, 3, none, [], 27, 3, 0, 1, 99999, 0),
  (⟨"java/lang/String", "checkBoundsOffCount", "(III)I"⟩, prog_35_method_157_code, 3, some (.int), [], 0, 3, 0, 1, 99999, 0),
  (⟨"jdk/internal/util/Preconditions", "checkFromIndexSize", "(IIILjava/util/function/BiFunction;)I"⟩, prog_54_method_13_code, 4, some (.int), [], 26, 4, 0, 1, 99999, 0),
  (⟨"java/lang/String", "getBytes", "([BIB)V"⟩, prog_35_method_147_code, 4, none, [], 0, 3, 0, 0, 0, 0),
  (⟨"java/lang/StringBuilder", "append", "(I)Ljava/lang/StringBuilder;"⟩, prog_36_method_15_code, 2, some (.object "java/lang/StringBuilder"), [], 1, 1, 0, 0, 0, 0),
  (⟨"java/lang/AbstractStringBuilder", "append", "(I)Ljava/lang/AbstractStringBuilder;"⟩, prog_17_method_32_code, 4, some (.object "java/lang/AbstractStringBuilder"), [], 35, 1, 0, 0, 99999, 0),
  (⟨"java/lang/Integer", "stringSize", "(I)I"⟩, prog_27_method_13_code, 4, some (.int), [], 2, 1, 0, 1, 99999, 0),
  (⟨"java/lang/Integer", "getChars", "(II[B)I"⟩, prog_27_method_12_code, 7, some (.int), [], 2, 3, 0, 1, 99999, 0),
  (⟨"java/lang/StringUTF16", "getChars", "(III[B)I"⟩, prog_38_method_77_code, 5, some (.int), [], 27, 4, 0, 1, 99999, 0),
  (⟨"java/lang/StringUTF16", "getChars", "(II[B)I"⟩, prog_38_method_89_code, 7, some (.int), [], 27, 3, 0, 1, 99999, 0),
  (⟨"java/lang/StringBuilder", "toString", "()Ljava/lang/String;"⟩, prog_36_method_42_code, 1, some (.object "java/lang/String"), [], 1, 0, 0, 0, 0, 0),
  (⟨"java/lang/String", "<init>", "(Ljava/lang/StringBuilder;)V"⟩, prog_35_method_53_code, 2, none, [], 0, 1, 0, 2, 99999, 0)]
def zt_m6 : List zx_M := [
  (⟨"java/lang/String", "<init>", "(Ljava/lang/AbstractStringBuilder;Ljava/lang/Void;)V"⟩, prog_35_method_150_code, 5, none, [], 0, 2, 0, 2, 99999, 0),
  (⟨"java/lang/AbstractStringBuilder", "getValue", "()[B"⟩, prog_17_method_64_code, 1, some (.array (.byte)), [], 35, 0, 0, 0, 99999, 0),
  (⟨"java/lang/StringBuilder", "length", "()I"⟩, prog_36_method_93_code, 1, some (.int), [], 1, 0, 0, 0, 99999, 0),
  (⟨"java/lang/AbstractStringBuilder", "length", "()I"⟩, prog_17_method_6_code, 1, some (.int), [], 35, 0, 0, 0, 99999, 0),
  (⟨"java/util/Arrays", "copyOfRange", "([BII)[B"⟩, prog_46_method_132_code, 3, some (.array (.byte)), [], 32, 3, 0, 1, 99999, 0),
  (⟨"java/util/Arrays", "copyOfRangeByte", "([BII)[B"⟩, prog_46_method_133_code, 5, some (.array (.byte)), [], 32, 3, 0, 1, 99999, 0),
  (⟨"java/util/Arrays", "checkLength", "(II)V"⟩, prog_46_method_131_code, 2, none, [], 32, 2, 0, 1, 99999, 0),
  (⟨"java/lang/StringUTF16", "compress", "([BII)[B"⟩, prog_38_method_17_code, 6, some (.array (.byte)), [], 27, 3, 0, 1, 99999, 0),
  (⟨"java/lang/StringUTF16", "compress", "([BI[BII)I"⟩, prog_38_method_22_code, 7, some (.int), [], 27, 5, 0, 1, 99999, 0),
  (⟨"java/lang/StringUTF16", "coderFromArrayLen", "([BI)B"⟩, prog_38_method_15_code, 2, some (.byte), [], 27, 2, 0, 1, 99999, 0),
  (⟨"ColumnVaultModel", "groupAt", "(II)J"⟩, prog_13_method_61_code, 4, some (.long), [], 18, 2, 0, 0, 0, 0),
  (⟨"ColumnVaultModel", "total", "(III)J"⟩, prog_13_method_67_code, 6, some (.long), [], 18, 3, 0, 0, 0, 0),
  (⟨"ColumnVaultModel", "chosenOf", "(LColumnVaultModel$Table;)Ljava/util/List;"⟩, prog_13_method_66_code, 4, some (.object "java/util/List"), [], 18, 1, 0, 1, 99999, 0),
  (⟨"ColumnVaultModel", "valuesOf", "(LColumnVaultModel$Table;ILjava/util/List;)Ljava/util/List;"⟩, prog_13_method_62_code, 7, some (.object "java/util/List"), [], 18, 3, 0, 1, 99999, 0),
  (⟨"ColumnVaultModel", "canTell", "(LColumnVaultModel$Table;II)Z"⟩, prog_13_method_64_code, 3, some (.boolean), [], 18, 3, 0, 1, 99999, 0),
  (⟨"ColumnVaultModel", "needsOne", "(I)Z"⟩, prog_13_method_65_code, 1, some (.boolean), [], 18, 1, 0, 1, 99999, 0),
  (⟨"java/util/ArrayList", "isEmpty", "()Z"⟩, prog_45_method_9_code, 1, some (.boolean), [], 4, 0, 0, 0, 99999, 0),
  (⟨"ColumnVaultModel", "told", "(Ljava/util/List;I)J"⟩, prog_13_method_63_code, 8, some (.long), [], 18, 2, 0, 1, 99999, 0),
  (⟨"ColumnVaultModel", "groupTotal", "(III)J"⟩, prog_13_method_68_code, 6, some (.long), [], 18, 3, 0, 0, 0, 0),
  (⟨"ColumnVaultModel", "running", "(III)J"⟩, prog_13_method_69_code, 9, some (.long), [], 18, 3, 0, 0, 0, 0),
  (⟨"ColumnVaultModel", "rank", "(IIII)I"⟩, prog_13_method_70_code, 10, some (.int), [], 18, 4, 0, 0, 0, 0),
  (⟨"ColumnVaultModel", "previous", "(III)I"⟩, prog_13_method_71_code, 6, some (.int), [], 18, 3, 0, 0, 0, 0),
  (⟨"ColumnVaultModel", "between", "(IIJJ)I"⟩, prog_13_method_73_code, 9, some (.int), [], 18, 4, 0, 0, 0, 0),
  (⟨"ColumnVaultModel", "within", "(LColumnVaultModel$Table;IJJ)I"⟩, prog_13_method_72_code, 9, some (.int), [], 18, 4, 0, 1, 99999, 0),
  (⟨"ColumnVaultModel", "nearest", "(IIJZ)J"⟩, prog_13_method_74_code, 15, some (.long), [], 18, 4, 0, 0, 0, 0),
  (⟨"ColumnVaultModel", "alike", "(III)I"⟩, prog_13_method_79_code, 13, some (.int), [], 18, 3, 0, 0, 0, 0),
  (⟨"ColumnVaultModel", "areOfKinds", "(LColumnVaultModel$Table;LColumnVaultModel$Table;)Z"⟩, prog_13_method_78_code, 4, some (.boolean), [], 18, 2, 0, 1, 99999, 0),
  (⟨"ColumnVaultModel", "chosenRows", "(LColumnVaultModel$Table;Z)Ljava/util/List;"⟩, prog_13_method_77_code, 5, some (.object "java/util/List"), [], 18, 2, 0, 1, 99999, 0),
  (⟨"ColumnVaultModel", "find", "(Ljava/util/List;[JI)I"⟩, prog_13_method_76_code, 4, some (.int), [], 18, 3, 0, 1, 99999, 0),
  (⟨"ColumnVaultModel", "areSame", "([J[JI)Z"⟩, prog_13_method_75_code, 4, some (.boolean), [], 18, 3, 0, 1, 99999, 0),
  (⟨"ColumnVaultModel", "errors", "(I)I"⟩, prog_13_method_83_code, 6, some (.int), [], 18, 1, 0, 0, 0, 0),
  (⟨"ColumnVaultModel", "failsOfOrder", "(LColumnVaultModel$Table;II)I"⟩, prog_13_method_80_code, 10, some (.int), [], 18, 3, 0, 1, 99999, 0),
  (⟨"ColumnVaultModel", "failsOfGroups", "(LColumnVaultModel$Table;I)I"⟩, prog_13_method_81_code, 7, some (.int), [], 18, 2, 0, 1, 99999, 0),
  (⟨"ColumnVaultModel", "failsOfRanges", "(LColumnVaultModel$Table;I)I"⟩, prog_13_method_82_code, 13, some (.int), [], 18, 2, 0, 1, 99999, 0),
  (⟨"ColumnVaultModel", "meanOf", "(II)D"⟩, prog_13_method_84_code, 5, some (.double), [], 18, 2, 0, 0, 0, 0),
  (⟨"ColumnVaultModel", "chosenShare", "(I)F"⟩, prog_13_method_85_code, 3, some (.float), [], 18, 1, 0, 0, 0, 0)]
def zt_m : List zx_M := zt_m0 ++ (zt_m1 ++ (zt_m2 ++ (zt_m3 ++ (zt_m4 ++ (zt_m5 ++ (zt_m6))))))
def zx_lim : Nat := 1000000
/-- cells that stood before, by place behind zx_lim + 1: the type (of an array its component), what it holds (.retAddr 0: not said) -/
def zt_ext (j : Nat) : Option (FieldType × ((Nat × vp_A) ⊕ (Nat × List Value))) :=
  if j = 0 then some (.object "java/lang/Object", .inl (0, 0, .inr (.inr (.inr (.inr (fun _ => none)))))) else
  if j = 1 ∨ j = 2 then some (.object "java/lang/Boolean", .inr (999, [])) else
  if j = 3 then some (.object "java/lang/Integer", .inl (0, 256, .inr (.inr (.inr (.inr (fun i => some (zx_lim + 1 + (10 + i)))))))) else
  if j = 4 then some (.object "java/lang/Long", .inl (0, 256, .inr (.inr (.inr (.inr (fun i => some (zx_lim + 1 + (300 + i)))))))) else
  if 10 ≤ j ∧ j < 266 then some (.object "java/lang/Integer", .inr (2, [.int (Int32.ofNat (j - 10) - 128)])) else
  if 300 ≤ j ∧ j < 556 then some (.object "java/lang/Long", .inr (3, [.long (Int64.ofNat (j - 300) - 128)])) else
  if j = 600 then some (.object "java/lang/String", .inr (0, [.ref (zx_lim + 1 + 601), .int 0, .retAddr 0, .retAddr 0])) else
  if j = 601 then some (.byte, .inl (0, 31, .inl (fun i => ([35, 48, 32, 60, 32, 53, 32, 38, 32, 33, 40, 35, 49, 32, 61, 32, 98, 32, 124, 32, 35, 49, 32, 109, 105, 115, 115, 105, 110, 103, 41] : List Int32).getD i 0))) else
  if j = 602 then some (.object "java/lang/String", .inr (0, [.ref (zx_lim + 1 + 603), .int 0, .retAddr 0, .retAddr 0])) else
  if j = 603 then some (.byte, .inl (0, 35, .inl (fun i => ([35, 48, 32, 116, 111, 32, 45, 51, 32, 51, 32, 124, 32, 35, 48, 32, 105, 110, 32, 55, 32, 57, 32, 49, 49, 32, 38, 32, 33, 35, 48, 32, 61, 32, 57] : List Int32).getD i 0))) else
  if j = 604 then some (.object "java/lang/String", .inr (0, [.ref (zx_lim + 1 + 605), .int 0, .retAddr 0, .retAddr 0])) else
  if j = 605 then some (.byte, .inl (0, 47, .inl (fun i => ([33, 40, 35, 48, 32, 109, 105, 115, 115, 105, 110, 103, 41, 32, 38, 32, 40, 35, 48, 32, 62, 32, 50, 32, 124, 32, 35, 48, 32, 60, 32, 45, 50, 41, 32, 38, 32, 35, 48, 32, 116, 111, 32, 45, 57, 32, 57] : List Int32).getD i 0))) else
  if j = 606 then some (.object "java/lang/String", .inr (0, [.ref (zx_lim + 1 + 607), .int 0, .retAddr 0, .retAddr 0])) else
  if j = 607 then some (.byte, .inl (0, 2, .inl (fun i => ([116, 111] : List Int32).getD i 0))) else
  if j = 608 then some (.object "java/lang/String", .inr (0, [.ref (zx_lim + 1 + 609), .int 0, .retAddr 0, .retAddr 0])) else
  if j = 609 then some (.byte, .inl (0, 2, .inl (fun i => ([105, 110] : List Int32).getD i 0))) else
  if j = 610 then some (.object "java/lang/String", .inr (0, [.ref (zx_lim + 1 + 611), .int 0, .retAddr 0, .retAddr 0])) else
  if j = 611 then some (.byte, .inl (0, 7, .inl (fun i => ([109, 105, 115, 115, 105, 110, 103] : List Int32).getD i 0))) else
  if j = 612 then some (.object "java/lang/String", .inr (0, [.ref (zx_lim + 1 + 613), .int 0, .retAddr 0, .retAddr 0])) else
  if j = 613 then some (.byte, .inl (0, 31, .inl (fun i => ([35, 48, 32, 60, 32, 53, 32, 38, 32, 33, 40, 35, 49, 32, 61, 32, 98, 32, 124, 32, 35, 49, 32, 109, 105, 115, 115, 105, 110, 103, 41] : List Int32).getD i 0))) else
  if j = 614 then some (.object "java/lang/String", .inr (0, [.ref (zx_lim + 1 + 615), .int 0, .retAddr 0, .retAddr 0])) else
  if j = 615 then some (.byte, .inl (0, 35, .inl (fun i => ([35, 48, 32, 116, 111, 32, 45, 51, 32, 51, 32, 124, 32, 35, 48, 32, 105, 110, 32, 55, 32, 57, 32, 49, 49, 32, 38, 32, 33, 35, 48, 32, 61, 32, 57] : List Int32).getD i 0))) else
  if j = 616 then some (.object "java/lang/String", .inr (0, [.ref (zx_lim + 1 + 617), .int 0, .retAddr 0, .retAddr 0])) else
  if j = 617 then some (.byte, .inl (0, 47, .inl (fun i => ([33, 40, 35, 48, 32, 109, 105, 115, 115, 105, 110, 103, 41, 32, 38, 32, 40, 35, 48, 32, 62, 32, 50, 32, 124, 32, 35, 48, 32, 60, 32, 45, 50, 41, 32, 38, 32, 35, 48, 32, 116, 111, 32, 45, 57, 32, 57] : List Int32).getD i 0))) else
  none
/-- texts that are read: class, place in its pool, text, place among the cells that stood before -/
def zt_str : List (String × Nat × String × Nat) := [("ColumnVault", 231, "#0 < 5 & !(#1 = b | #1 missing)", 600), ("ColumnVault", 236, "#0 to -3 3 | #0 in 7 9 11 & !#0 = 9", 602), ("ColumnVault", 238, "!(#0 missing) & (#0 > 2 | #0 < -2) & #0 to -9 9", 604), ("ColumnVaultModel", 280, "to", 606), ("ColumnVaultModel", 286, "in", 608), ("ColumnVaultModel", 287, "missing", 610), ("ColumnVaultModel", 335, "#0 < 5 & !(#1 = b | #1 missing)", 612), ("ColumnVaultModel", 337, "#0 to -3 3 | #0 in 7 9 11 & !#0 = 9", 614), ("ColumnVaultModel", 339, "!(#0 missing) & (#0 > 2 | #0 < -2) & #0 to -9 9", 616)]
/-- static fields -/
def zt_stn : List (String × String × String) := [("java/util/ArrayList", "DEFAULTCAPACITY_EMPTY_ELEMENTDATA", "[Ljava/lang/Object;"), ("java/lang/Boolean", "TRUE", "Ljava/lang/Boolean;"), ("java/lang/Boolean", "FALSE", "Ljava/lang/Boolean;"), ("java/lang/Integer$IntegerCache", "high", "I"), ("java/lang/Integer$IntegerCache", "cache", "[Ljava/lang/Integer;"), ("java/lang/Long$LongCache", "cache", "[Ljava/lang/Long;"), ("java/lang/String", "COMPACT_STRINGS", "Z"), ("jdk/internal/util/Preconditions", "SIOOBE_FORMATTER", "Ljava/util/function/BiFunction;")]
def zt_stv (nf : Bool) : List Value := [.ref (zx_lim + 1), .ref (zx_lim + 2), .ref (zx_lim + 3), .int 127, .ref (zx_lim + 4), .ref (zx_lim + 5), .int 1, if nf then .null else .ref (zx_lim + 6)]
/-- the place of Object[] among the array types -/
def zt_objT : Nat := 5
def zt_pl0 : List (Nat × Nat × Nat × Nat × Nat) := [(1, 10, 0, 0, 10005), (9, 0, 0, 0, 10047), (15, 0, 0, 1, 10048), (38, 14, 6, 0, 4163), (47, 4, 369, 0, 10044), (54, 4, 364, 0, 10020), (106, 4, 346, 0, 9206), (212, 17, 0, 0, 9205), (335, 6, 129, 0, 4159), (489, 8, 360, 0, 10002), (492, 6, 131, 0, 4169), (495, 4, 132, 0, 4173), (498, 4, 135, 0, 4184), (1048, 0, 1, 2, 9109), (1051, 4, 367, 0, 10037), (1053, 14, 7, 0, 4179), (1059, 4, 134, 0, 4181), (1062, 4, 341, 0, 9166), (1065, 4, 350, 0, 9198)]
def zt_lc0 : List (Nat × Int64 × Nat) := []
def zt_pl1 : List (Nat × Nat × Nat × Nat × Nat) := [(1, 8, 328, 0, 9095), (18, 2, 0, 999, 9237), (137, 8, 359, 0, 9239)]
def zt_lc1 : List (Nat × Int64 × Nat) := []
def zt_pl2 : List (Nat × Nat × Nat × Nat × Nat) := [(1, 2, 2, 999, 7102), (191, 14, 3, 0, 7098), (195, 14, 4, 0, 7100), (199, 8, 240, 0, 7104), (202, 8, 241, 0, 7107), (205, 0, 2, 0, 7111)]
def zt_lc2 : List (Nat × Int64 × Nat) := []
def zt_pl3 : List (Nat × Nat × Nat × Nat × Nat) := [(1, 2, 3, 999, 8170), (234, 14, 5, 0, 8168), (240, 8, 298, 0, 8172), (270, 8, 241, 0, 8175), (273, 0, 3, 0, 8176)]
def zt_lc3 : List (Nat × Int64 × Nat) := [(314, 6148914691236517205, 3014), (316, 3689348814741910323, 3015), (318, 1085102592571150095, 3016), (230, -128, 8166), (232, 127, 8167)]
def zt_pl4 : List (Nat × Nat × Nat × Nat × Nat) := [(1, 8, 217, 0, 6114), (7, 2, 999, 5, 7022), (9, 0, 4, 1, 6123), (20, 2, 1, 999, 9090), (22, 8, 327, 0, 9092), (25, 6, 331, 0, 9121), (29, 6, 352, 0, 9207), (32, 6, 358, 0, 9233), (39, 14, 0, 0, 6121), (48, 0, 4, 2, 6124), (63, 0, 4, 0, 6126), (66, 4, 231, 0, 6220), (69, 6, 228, 0, 6208), (73, 4, 229, 0, 6212), (79, 16, 0, 0, 7021), (112, 17, 0, 0, 7134), (118, 4, 223, 0, 6182), (123, 6, 224, 0, 6186), (129, 6, 227, 0, 6204), (131, 6, 226, 0, 6200), (135, 6, 325, 0, 9081), (144, 6, 244, 0, 7130), (187, 2, 19, 999, 9085), (198, 6, 326, 0, 9086), (201, 13, 0, 0, 9120), (203, 13, 0, 0, 9232)]
def zt_lc4 : List (Nat × Int64 × Nat) := []
def zt_pl5 : List (Nat × Nat × Nat × Nat × Nat) := [(3, 10, 0, 0, 1188), (9, 2, 13, 0, 1189), (11, 9, 3, 0, 1190), (12, 0, 5, 0, 1193), (18, 2, 8, 999, 1191), (20, 9, 7, 0, 1192), (21, 0, 5, 1, 1194), (25, 0, 5, 2, 1195), (29, 1, 13, 3, 1067), (33, 6, 203, 0, 6036), (37, 6, 205, 0, 6052), (41, 6, 207, 0, 6065), (44, 6, 17, 0, 6040), (48, 6, 60, 0, 6041), (52, 1, 13, 4, 1073), (55, 6, 63, 0, 6042), (59, 6, 204, 0, 6043), (63, 6, 182, 0, 6050), (67, 6, 91, 0, 6051), (71, 6, 37, 0, 6047), (75, 6, 69, 0, 6048), (78, 5, 61, 0, 6049), (82, 6, 161, 0, 6056), (86, 1, 8, 4, 1170), (89, 6, 169, 0, 6057), (92, 4, 49, 0, 6058), (98, 1, 13, 5, 1079), (102, 6, 29, 0, 6059), (105, 6, 206, 0, 6060), (108, 6, 175, 0, 6064), (112, 1, 8, 0, 1164), (117, 6, 168, 0, 6070), (120, 6, 52, 0, 6071), (128, 6, 208, 0, 6074)]
def zt_lc5 : List (Nat × Int64 × Nat) := [(115, -8999999999, 6069), (124, -9000000000, 6072), (126, 9223372036854775807, 6073)]
def zt_pl6 : List (Nat × Nat × Nat × Nat × Nat) := [(3, 10, 0, 0, 3126), (9, 0, 6, 2, 3129), (15, 0, 6, 3, 3130), (19, 0, 6, 4, 3131), (22, 0, 6, 5, 3132), (25, 0, 6, 6, 3134), (28, 0, 6, 0, 3127), (32, 0, 6, 1, 3128), (36, 6, 79, 0, 3155), (42, 6, 88, 0, 3195), (46, 6, 94, 0, 4009), (50, 6, 95, 0, 4013), (53, 6, 96, 0, 4017), (57, 2, 11, 999, 3199), (59, 8, 89, 0, 3201), (62, 6, 90, 0, 3233), (65, 6, 106, 0, 4069), (69, 6, 93, 0, 4005), (73, 6, 91, 0, 3237), (79, 6, 92, 0, 4001), (82, 6, 97, 0, 4021), (85, 6, 98, 0, 4025), (89, 6, 105, 0, 4064), (93, 6, 99, 0, 4029), (97, 6, 20, 0, 4033), (100, 6, 100, 0, 4034), (103, 6, 29, 0, 4042), (106, 6, 101, 0, 4043), (110, 6, 104, 0, 4057), (122, 6, 102, 0, 4047), (126, 6, 103, 0, 4051), (131, 5, 38, 0, 4056), (137, 6, 52, 0, 4062)]
def zt_lc6 : List (Nat × Int64 × Nat) := [(114, -1, 4038), (116, 29807, 4039), (118, 26990, 4040), (120, 30796717039906407, 4041), (129, -9000000000, 4055), (135, -8999999999, 4061), (141, 9223372036854775807, 4063)]
def zt_pl7 : List (Nat × Nat × Nat × Nat × Nat) := [(3, 10, 0, 0, 1109), (9, 0, 7, 0, 1110), (15, 0, 7, 1, 1111), (21, 6, 124, 0, 4139), (25, 6, 128, 0, 4155), (30, 6, 130, 0, 4165)]
def zt_lc7 : List (Nat × Int64 × Nat) := [(19, 255, 4138)]
def zt_pl8 : List (Nat × Nat × Nat × Nat × Nat) := [(3, 10, 0, 0, 1160), (9, 2, 13, 0, 1161), (11, 9, 3, 0, 1162), (12, 0, 8, 0, 1163), (18, 0, 8, 1, 1166), (22, 0, 8, 2, 1167), (25, 0, 8, 3, 1168), (29, 0, 8, 4, 1169), (32, 6, 17, 0, 5085), (36, 1, 13, 4, 1071), (39, 1, 13, 5, 1078), (43, 5, 72, 0, 5086), (47, 6, 162, 0, 5087), (51, 6, 37, 0, 5091), (55, 5, 61, 0, 5092), (59, 6, 163, 0, 5093), (65, 6, 29, 0, 5113), (69, 6, 168, 0, 5114), (73, 5, 46, 0, 5119)]
def zt_lc8 : List (Nat × Int64 × Nat) := [(63, -9000000000, 5118)]
def zt_pl9 : List (Nat × Nat × Nat × Nat × Nat) := [(3, 10, 0, 0, 1055), (9, 2, 13, 0, 1056), (11, 0, 9, 0, 1096), (17, 0, 9, 1, 1097), (21, 9, 3, 0, 1059), (22, 6, 14, 0, 2117), (26, 6, 17, 0, 2118)]
def zt_lc9 : List (Nat × Int64 × Nat) := []
def zt_pl10 : List (Nat × Nat × Nat × Nat × Nat) := [(3, 10, 0, 0, 5018), (9, 0, 10, 0, 5019), (15, 0, 10, 1, 5020), (19, 0, 10, 2, 5021), (22, 0, 10, 3, 5022), (25, 1, 13, 5, 1076), (31, 6, 152, 0, 5036), (35, 6, 154, 0, 5047), (39, 6, 156, 0, 5058), (43, 6, 158, 0, 5068), (49, 4, 49, 0, 5073), (55, 6, 37, 0, 5051), (59, 6, 21, 0, 5052), (63, 6, 155, 0, 5053), (67, 1, 13, 4, 1074), (72, 5, 72, 0, 5063), (76, 6, 157, 0, 5064), (80, 16, 0, 0, 5057)]
def zt_lc10 : List (Nat × Int64 × Nat) := [(70, -9000000000, 5062), (47, -1, 5072)]
def zt_pl11 : List (Nat × Nat × Nat × Nat × Nat) := [(3, 10, 0, 0, 3204), (9, 0, 11, 2, 3209), (15, 0, 11, 3, 3211), (18, 0, 11, 4, 3212), (21, 0, 11, 5, 3214), (24, 0, 11, 6, 3216), (27, 0, 11, 0, 3205), (31, 0, 11, 1, 3207), (37, 6, 107, 0, 4073), (41, 6, 108, 0, 4077), (45, 4, 49, 0, 4081)]
def zt_lc11 : List (Nat × Int64 × Nat) := [(35, -1, 4068)]
def zt_pl12 : List (Nat × Nat × Nat × Nat × Nat) := [(3, 10, 0, 0, 1143), (9, 0, 12, 0, 1144), (15, 0, 12, 1, 1145), (18, 0, 12, 2, 1146), (22, 1, 13, 4, 1070), (27, 1, 13, 5, 1077), (31, 5, 72, 0, 4222), (35, 6, 37, 0, 4223), (41, 6, 51, 0, 4225), (45, 6, 143, 0, 4226), (49, 6, 144, 0, 4230)]
def zt_lc12 : List (Nat × Int64 × Nat) := [(39, -9000000000, 4224)]
def zt_pl13 : List (Nat × Nat × Nat × Nat × Nat) := [(3, 10, 0, 0, 1062), (9, 0, 13, 0, 1063), (15, 0, 13, 1, 1064), (19, 0, 13, 2, 1065), (22, 0, 13, 3, 1066), (26, 0, 13, 4, 1069), (29, 0, 13, 5, 1075), (33, 17, 0, 0, 2122), (39, 6, 29, 0, 3000), (43, 6, 20, 0, 2134), (49, 6, 21, 0, 2138), (52, 6, 37, 0, 2223), (56, 5, 46, 0, 3001), (60, 6, 51, 0, 3021), (63, 4, 49, 0, 3029), (69, 6, 19, 0, 2130), (73, 6, 42, 0, 2224), (79, 6, 63, 0, 3068), (82, 5, 61, 0, 3061), (86, 5, 72, 0, 5046), (94, 6, 52, 0, 3025), (98, 6, 153, 0, 5040), (102, 6, 197, 0, 6011), (106, 6, 196, 0, 6007), (110, 6, 198, 0, 6023)]
def zt_lc13 : List (Nat × Int64 × Nat) := [(47, -9000000000, 2129), (77, -1, 2228), (90, -8999999999, 5044), (92, 9223372036854775807, 5045)]
def zt_pl14 : List (Nat × Nat × Nat × Nat × Nat) := [(3, 10, 0, 0, 1124), (9, 0, 14, 0, 1125), (15, 0, 14, 1, 1126), (18, 0, 14, 2, 1127), (22, 0, 14, 3, 1128), (26, 1, 7, 1, 1112), (31, 6, 80, 0, 3159), (35, 6, 81, 0, 3163), (39, 16, 0, 0, 3192), (47, 6, 82, 0, 3168), (51, 5, 83, 0, 3172), (55, 5, 36, 0, 3175), (58, 6, 84, 0, 3176), (61, 6, 85, 0, 3181), (72, 16, 0, 2, 3188)]
def zt_lc14 : List (Nat × Int64 × Nat) := [(45, -1, 3167), (64, -9000000000, 3180), (66, 10, 3185), (68, 48, 3186), (70, 1000001, 3187), (76, 1000000, 3191)]
def zt_pl15 : List (Nat × Nat × Nat × Nat × Nat) := [(5, 10, 0, 0, 1047), (11, 2, 9, 999, 1050), (13, 8, 2, 0, 1052), (14, 0, 15, 0, 1203), (18, 2, 7, 999, 1104), (20, 9, 4, 0, 1106), (21, 0, 15, 1, 1204), (25, 2, 14, 999, 1119), (27, 9, 5, 0, 1121), (28, 0, 15, 2, 1205), (32, 2, 12, 999, 1138), (34, 9, 6, 0, 1140), (35, 0, 15, 3, 1206), (39, 2, 8, 999, 1155), (41, 9, 7, 0, 1157), (42, 0, 15, 4, 1207), (46, 2, 5, 999, 1183), (48, 9, 8, 0, 1185), (49, 0, 15, 5, 1208), (53, 6, 13, 0, 2000), (57, 2, 20, 999, 2077), (59, 13, 0, 0, 2086), (64, 1, 13, 3, 1068), (70, 2, 21, 999, 2093), (72, 13, 0, 0, 2102), (75, 6, 15, 0, 2109), (78, 6, 18, 0, 2125), (82, 1, 13, 4, 1072), (85, 13, 0, 0, 2149), (87, 6, 24, 0, 2150), (91, 6, 27, 0, 2161), (95, 6, 29, 0, 2170), (98, 4, 30, 0, 2174), (102, 13, 0, 0, 2179), (104, 6, 19, 0, 2180), (108, 4, 33, 0, 2188), (114, 4, 34, 0, 2194), (118, 6, 37, 0, 2205), (122, 4, 38, 0, 2209), (126, 6, 41, 0, 2219), (130, 6, 45, 0, 2236), (133, 1, 13, 5, 1080), (137, 4, 49, 0, 3011), (141, 6, 50, 0, 3017), (144, 13, 0, 0, 3030), (146, 1, 9, 1, 1098), (149, 6, 57, 0, 3045), (153, 2, 19, 999, 2008), (155, 13, 0, 0, 3049), (158, 6, 16, 0, 2113), (161, 6, 60, 0, 3057), (165, 6, 62, 0, 3064), (169, 4, 66, 0, 3079), (172, 6, 63, 0, 3083), (175, 6, 69, 0, 3091), (178, 4, 72, 0, 3102), (182, 13, 0, 0, 3112), (184, 6, 75, 0, 3113), (188, 1, 11, 1, 3208), (195, 6, 91, 0, 4091), (199, 4, 115, 0, 4106), (203, 6, 76, 0, 3117), (207, 6, 78, 0, 3151), (208, 2, 6, 999, 3121), (213, 1, 6, 5, 3133), (216, 1, 6, 6, 3135), (219, 1, 7, 1, 1113), (222, 4, 122, 0, 4130), (225, 13, 0, 0, 4133), (227, 6, 123, 0, 4134), (231, 13, 600, 1, 4150), (233, 6, 127, 0, 4151), (236, 13, 602, 1, 4203), (238, 13, 604, 1, 4204), (240, 13, 0, 0, 4205), (242, 4, 141, 0, 4213), (246, 13, 0, 0, 4217), (248, 6, 142, 0, 4218), (252, 1, 12, 2, 1147), (255, 13, 0, 0, 5001), (257, 6, 147, 0, 5002), (261, 2, 10, 999, 5013), (263, 8, 150, 0, 5015), (266, 6, 151, 0, 5032), (269, 6, 161, 0, 5081), (271, 1, 8, 4, 1171), (272, 6, 166, 0, 5104), (275, 6, 167, 0, 5109), (279, 6, 169, 0, 5120), (282, 1, 8, 0, 1165), (286, 6, 170, 0, 5124), (289, 6, 171, 0, 5128), (292, 13, 0, 0, 5132), (294, 4, 174, 0, 5141), (298, 4, 28, 0, 2165), (301, 4, 181, 0, 5185), (304, 6, 182, 0, 5189), (307, 6, 175, 0, 5146), (310, 2, 22, 999, 5155), (312, 13, 0, 0, 5200), (315, 6, 51, 0, 5201), (320, 6, 52, 0, 5203), (324, 6, 191, 0, 5225), (328, 13, 0, 0, 5229), (330, 4, 46, 0, 5230), (333, 6, 194, 0, 5238), (337, 13, 0, 0, 6002), (339, 6, 195, 0, 6003), (342, 6, 198, 0, 6015), (345, 6, 199, 0, 6019), (348, 13, 0, 0, 6024), (350, 6, 202, 0, 6032), (353, 6, 153, 0, 5145), (356, 6, 14, 0, 2004), (359, 13, 0, 0, 2050), (361, 8, 77, 0, 3123), (364, 13, 0, 0, 4082), (366, 13, 0, 0, 5108), (368, 6, 20, 0, 2168), (371, 13, 0, 0, 2169), (373, 6, 21, 0, 2191), (376, 13, 0, 0, 2192), (378, 13, 0, 0, 3082), (380, 4, 35, 0, 2197), (383, 13, 0, 0, 2204), (385, 13, 0, 0, 5188), (387, 13, 0, 0, 4216), (395, 4, 36, 0, 2201), (398, 13, 0, 0, 5144), (400, 6, 152, 0, 5150), (404, 6, 176, 0, 5151), (408, 13, 0, 0, 5164), (410, 1, 11, 0, 3206), (413, 1, 11, 5, 3215), (417, 1, 11, 2, 3210), (420, 1, 11, 6, 3217), (423, 1, 11, 4, 3213)]
def zt_lc15 : List (Nat × Int64 × Nat) := [(389, -1000000, 2177), (391, 1000000, 2178), (112, -9000000000, 2193), (393, 255, 2200), (193, -1, 4083), (318, -8999999999, 5202)]
def zt_pl16 : List (Nat × Nat × Nat × Nat × Nat) := [(3, 10, 0, 0, 8083), (9, 2, 4, 999, 8084), (11, 8, 216, 0, 8085), (12, 0, 16, 1, 8088), (13, 2, 16, 999, 8205), (18, 0, 16, 3, 8092), (21, 0, 16, 0, 8086), (25, 6, 300, 0, 8184), (29, 11, 222, 1, 8196), (35, 6, 299, 0, 8206), (38, 11, 221, 0, 8204), (42, 0, 16, 2, 8090), (45, 6, 251, 0, 8193), (51, 6, 257, 0, 8194), (55, 2, 3, 999, 8197), (57, 6, 302, 0, 8198), (61, 5, 275, 0, 8202), (65, 6, 268, 0, 8188), (69, 6, 301, 0, 8189), (73, 6, 246, 0, 8224), (76, 6, 305, 0, 8237), (80, 6, 308, 0, 8233), (84, 6, 307, 0, 8238)]
def zt_lc16 : List (Nat × Int64 × Nat) := []
def zt_pl17 : List (Nat × Nat × Nat × Nat × Nat) := [(3, 10, 0, 0, 6108), (9, 2, 4, 999, 6109), (11, 8, 216, 0, 6111), (12, 0, 17, 0, 6135), (13, 2, 17, 4, 6161), (18, 0, 17, 1, 6137), (21, 0, 17, 2, 6139), (24, 0, 17, 3, 6141), (27, 8, 215, 0, 6162), (28, 11, 221, 0, 6164), (34, 11, 222, 1, 6174), (38, 2, 2, 999, 6190), (40, 11, 225, 2, 6192), (44, 18, 2, 0, 7023), (46, 19, 0, 0, 7024), (48, 6, 257, 0, 8016), (54, 6, 252, 0, 7174), (57, 6, 260, 0, 7214), (61, 4, 239, 0, 7149), (65, 4, 248, 0, 7150), (68, 11, 243, 3, 7213), (71, 6, 261, 0, 7218), (75, 11, 262, 4, 7223), (79, 6, 246, 0, 8004), (81, 6, 266, 0, 8005), (85, 6, 268, 0, 8041), (89, 6, 251, 0, 8042), (92, 5, 275, 0, 8043), (96, 6, 274, 0, 8037)]
def zt_lc17 : List (Nat × Int64 × Nat) := [(52, -9000000000, 7148)]
def zt_pl18 : List (Nat × Nat × Nat × Nat × Nat) := [(3, 0, 18, 0, 7027), (13, 4, 236, 0, 7084), (23, 4, 256, 0, 7193), (29, 4, 276, 0, 8046), (33, 10, 0, 0, 6101), (39, 2, 17, 4, 6102), (41, 9, 215, 0, 6105), (42, 0, 18, 1, 7028), (46, 2, 4, 999, 6152), (48, 8, 216, 0, 6153), (49, 0, 18, 2, 7029), (53, 0, 18, 4, 7031), (57, 0, 18, 12, 7039), (60, 0, 18, 13, 7040), (64, 0, 18, 15, 7042), (67, 4, 219, 0, 6154), (71, 11, 225, 2, 7026), (72, 2, 999, 999, 9066), (77, 6, 220, 0, 6157), (81, 0, 18, 3, 7030), (84, 11, 221, 0, 7120), (88, 11, 243, 3, 7122), (92, 18, 4, 0, 7135), (95, 4, 235, 0, 7080), (99, 6, 237, 0, 7087), (102, 6, 246, 0, 7140), (105, 6, 238, 0, 7091), (109, 1, 17, 0, 6136), (112, 4, 239, 0, 7095), (113, 2, 2, 999, 8054), (118, 6, 242, 0, 7115), (122, 6, 247, 0, 7144), (125, 6, 250, 0, 7161), (135, 6, 251, 0, 7170), (138, 1, 17, 1, 6138), (140, 11, 222, 1, 7179), (143, 18, 2, 0, 7180), (145, 6, 254, 0, 7185), (150, 4, 255, 0, 7190), (154, 6, 257, 0, 7200), (158, 6, 259, 0, 7208), (161, 6, 268, 0, 8012), (166, 6, 265, 0, 8000), (169, 4, 267, 0, 8009), (173, 6, 273, 0, 8033), (177, 1, 17, 2, 6140), (180, 6, 252, 0, 8055), (183, 6, 261, 0, 8060), (186, 6, 266, 0, 8065), (189, 6, 281, 0, 8070), (193, 6, 299, 0, 8180), (194, 2, 16, 999, 8078), (199, 1, 17, 3, 6142), (202, 4, 248, 0, 8207), (203, 19, 0, 0, 8210), (207, 11, 262, 4, 8209), (211, 6, 260, 0, 8211), (215, 0, 18, 9, 7036), (218, 0, 18, 10, 7037), (221, 0, 18, 5, 7032), (228, 0, 18, 6, 7033), (231, 6, 286, 0, 8111), (234, 0, 18, 7, 7034), (237, 8, 283, 0, 8080), (239, 1, 16, 1, 8089), (242, 6, 282, 0, 8074), (245, 6, 284, 0, 8103), (248, 6, 285, 0, 8107), (251, 6, 287, 0, 8115), (254, 6, 289, 0, 8123), (258, 6, 290, 0, 8127), (261, 6, 288, 0, 8119), (265, 0, 18, 8, 7035), (268, 6, 128, 0, 8145), (273, 6, 130, 0, 8146), (277, 4, 294, 0, 8147), (280, 13, 606, 1, 8140), (282, 6, 293, 0, 8141), (286, 13, 608, 1, 8150), (287, 13, 610, 1, 8151), (288, 4, 291, 0, 8131), (291, 0, 18, 11, 7038), (294, 6, 292, 0, 8136), (297, 1, 16, 2, 8091), (300, 1, 16, 0, 8087), (302, 6, 295, 0, 8152), (305, 6, 296, 0, 8156), (312, 16, 0, 2, 8162), (318, 1, 16, 3, 8093), (321, 4, 297, 0, 8163), (322, 2, 3, 999, 10073), (326, 7, 305, 0, 8220), (329, 6, 307, 0, 8229), (335, 13, 612, 1, 9021), (337, 13, 614, 1, 9022), (339, 13, 616, 1, 9023), (341, 6, 315, 0, 9028), (345, 6, 316, 0, 9032), (348, 11, 317, 5, 9037), (351, 6, 318, 0, 9045), (355, 18, 1, 0, 9053), (356, 4, 275, 0, 9058), (360, 6, 323, 0, 9067), (364, 7, 274, 0, 9071), (368, 11, 324, 6, 9073), (371, 0, 18, 14, 7041), (374, 4, 322, 0, 9063), (378, 6, 302, 0, 10074), (386, 4, 372, 0, 10067), (390, 4, 373, 0, 10070), (394, 4, 374, 0, 10075), (398, 4, 375, 0, 10079), (401, 11, 376, 7, 10084), (404, 4, 377, 0, 10092), (408, 4, 383, 0, 10115), (412, 4, 389, 0, 10135), (416, 4, 388, 0, 10132), (420, 4, 386, 0, 10126), (424, 4, 387, 0, 10129), (427, 16, 0, 0, 10151), (431, 4, 391, 0, 10142), (435, 4, 392, 0, 10145), (439, 4, 393, 0, 10148)]
def zt_lc18 : List (Nat × Int64 × Nat) := [(93, 2, 7083), (19, -1000000, 7165), (21, 1000000, 7166), (129, -1000, 7167), (131, 1000, 7168), (133, 40, 7169), (148, -9000000000, 7189), (7, 256, 7196), (9, 97, 7197), (11, 122, 7198), (17, 7, 7199), (164, 3, 7239), (27, 281474976710656, 8049), (224, 48, 8134), (226, 57, 8135), (308, 10, 8160), (310, 1000001, 8161), (333, 255, 9012), (382, 5, 10078), (384, 4, 10082)]
def zt_pl19 : List (Nat × Nat × Nat × Nat × Nat) := []
def zt_lc19 : List (Nat × Int64 × Nat) := []
def zt_pl20 : List (Nat × Nat × Nat × Nat × Nat) := []
def zt_lc20 : List (Nat × Int64 × Nat) := []
def zt_pl21 : List (Nat × Nat × Nat × Nat × Nat) := []
def zt_lc21 : List (Nat × Int64 × Nat) := []
def zt_pl22 : List (Nat × Nat × Nat × Nat × Nat) := []
def zt_lc22 : List (Nat × Int64 × Nat) := []
def zt_pl23 : List (Nat × Nat × Nat × Nat × Nat) := [(7, 6, 12, 0, 1236), (8, 2, 15, 999, 1042), (13, 2, 19, 999, 1233), (15, 2, 20, 999, 1234), (17, 2, 21, 999, 1235), (19, 6, 23, 0, 2145), (23, 6, 26, 0, 2157), (27, 6, 32, 0, 2184), (31, 6, 40, 0, 2215), (34, 6, 44, 0, 2232), (38, 6, 48, 0, 3007), (41, 6, 54, 0, 3034), (44, 6, 56, 0, 3041), (47, 6, 59, 0, 3053), (51, 6, 65, 0, 3075), (54, 6, 68, 0, 3087), (57, 6, 71, 0, 3098), (61, 6, 74, 0, 3108), (64, 6, 110, 0, 4087), (67, 6, 112, 0, 4095), (70, 6, 114, 0, 4102), (74, 6, 117, 0, 4112), (77, 6, 119, 0, 4119), (80, 6, 121, 0, 4126), (84, 6, 126, 0, 4146), (87, 6, 140, 0, 4209), (90, 6, 146, 0, 4237), (93, 6, 149, 0, 5009), (97, 6, 160, 0, 5077), (100, 6, 165, 0, 5100), (104, 6, 173, 0, 5137), (107, 2, 22, 999, 5136), (109, 6, 178, 0, 5174), (112, 6, 180, 0, 5181), (115, 6, 184, 0, 5196), (118, 6, 186, 0, 5207), (122, 6, 188, 0, 5214), (126, 6, 190, 0, 5221), (130, 6, 193, 0, 5234), (133, 6, 201, 0, 6028), (136, 6, 210, 0, 6081), (140, 6, 212, 0, 6088), (144, 8, 1, 0, 1044), (145, 2, 18, 999, 6096), (147, 8, 214, 0, 6098), (148, 4, 11, 0, 1230), (153, 6, 234, 0, 7076), (154, 6, 213, 0, 6092), (158, 4, 22, 0, 2142), (161, 6, 245, 0, 7136), (162, 4, 25, 0, 2154), (165, 6, 249, 0, 7157), (168, 4, 31, 0, 2181), (171, 6, 253, 0, 7181), (172, 4, 39, 0, 2212), (174, 6, 258, 0, 7204), (175, 4, 43, 0, 2229), (178, 6, 263, 0, 7231), (179, 4, 47, 0, 3004), (181, 6, 264, 0, 7235), (182, 4, 53, 0, 3031), (184, 6, 269, 0, 8017), (185, 6, 9, 0, 1222), (188, 6, 270, 0, 8021), (189, 4, 55, 0, 3038), (191, 6, 271, 0, 8025), (192, 4, 58, 0, 3050), (195, 6, 272, 0, 8029), (196, 4, 64, 0, 3072), (198, 6, 277, 0, 8050), (199, 4, 67, 0, 3084), (201, 6, 278, 0, 8056), (202, 4, 70, 0, 3095), (204, 6, 279, 0, 8061), (205, 4, 73, 0, 3105), (207, 6, 280, 0, 8066), (208, 4, 109, 0, 4084), (210, 6, 303, 0, 8212), (211, 4, 111, 0, 4092), (213, 6, 304, 0, 8216), (214, 4, 113, 0, 4099), (217, 6, 306, 0, 8225), (218, 4, 116, 0, 4109), (220, 6, 309, 0, 9000), (221, 4, 118, 0, 4116), (223, 6, 310, 0, 9004), (224, 4, 120, 0, 4123), (227, 6, 311, 0, 9008), (228, 6, 10, 0, 1226), (231, 6, 312, 0, 9013), (232, 4, 125, 0, 4143), (234, 6, 313, 0, 9017), (235, 4, 139, 0, 4206), (237, 6, 314, 0, 9024), (238, 4, 145, 0, 4234), (240, 6, 319, 0, 9049), (241, 4, 148, 0, 5006), (244, 6, 320, 0, 9054), (245, 4, 159, 0, 5074), (247, 6, 321, 0, 9059), (248, 4, 164, 0, 5097), (250, 6, 370, 0, 10059), (251, 4, 172, 0, 5133), (253, 6, 371, 0, 10063), (254, 4, 177, 0, 5171), (256, 6, 378, 0, 10095), (257, 4, 179, 0, 5178), (259, 6, 379, 0, 10099), (260, 4, 183, 0, 5193), (262, 6, 380, 0, 10103), (263, 4, 185, 0, 5204), (265, 6, 381, 0, 10107), (266, 4, 187, 0, 5211), (269, 6, 382, 0, 10111), (270, 4, 189, 0, 5218), (273, 6, 384, 0, 10118), (274, 4, 192, 0, 5231), (276, 6, 385, 0, 10122), (277, 4, 200, 0, 6025), (279, 6, 390, 0, 10138), (280, 4, 209, 0, 6078), (283, 6, 394, 0, 10152), (284, 4, 211, 0, 6085), (287, 6, 395, 0, 10156)]
def zt_lc23 : List (Nat × Int64 × Nat) := [(166, 4294967295, 10160)]
def zt_pl24 : List (Nat × Nat × Nat × Nat × Nat) := []
def zt_lc24 : List (Nat × Int64 × Nat) := []
def zt_pl25 : List (Nat × Nat × Nat × Nat × Nat) := [(9, 4, 133, 0, 4176), (240, 4, 347, 0, 9189)]
def zt_lc25 : List (Nat × Int64 × Nat) := []
def zt_pl26 : List (Nat × Nat × Nat × Nat × Nat) := []
def zt_lc26 : List (Nat × Int64 × Nat) := []
def zt_pl27 : List (Nat × Nat × Nat × Nat × Nat) := [(11, 4, 330, 0, 9103), (48, 4, 137, 0, 4190), (67, 4, 136, 0, 4187), (71, 4, 138, 0, 4194), (96, 4, 339, 0, 9160), (111, 4, 342, 0, 9169), (123, 4, 368, 0, 10040), (126, 4, 364, 0, 10043), (173, 4, 348, 0, 9192), (241, 4, 340, 0, 9163), (393, 4, 357, 0, 9227), (414, 4, 133, 0, 4193), (419, 4, 349, 0, 9195)]
def zt_lc27 : List (Nat × Int64 × Nat) := []
def zt_pl28 : List (Nat × Nat × Nat × Nat × Nat) := [(1, 8, 218, 0, 6117), (7, 0, 4, 0, 6125)]
def zt_lc28 : List (Nat × Int64 × Nat) := []
def zt_pl29 : List (Nat × Nat × Nat × Nat × Nat) := [(1, 10, 0, 0, 6120)]
def zt_lc29 : List (Nat × Int64 × Nat) := []
def zt_pl30 : List (Nat × Nat × Nat × Nat × Nat) := [(105, 4, 134, 0, 6185)]
def zt_lc30 : List (Nat × Int64 × Nat) := []
def zt_pl31 : List (Nat × Nat × Nat × Nat × Nat) := [(194, 16, 0, 0, 6215), (201, 4, 230, 0, 6217)]
def zt_lc31 : List (Nat × Int64 × Nat) := []
def zt_pl32 : List (Nat × Nat × Nat × Nat × Nat) := [(2, 2, 999, 5, 7016), (43, 2, 20, 999, 10029), (45, 2, 1, 999, 10030), (47, 8, 327, 0, 10031), (50, 6, 331, 0, 10034), (54, 6, 352, 0, 10032), (61, 6, 358, 0, 10035), (110, 18, 5, 0, 7014), (150, 17, 0, 0, 7020), (300, 4, 232, 0, 7011), (304, 16, 0, 1, 7017), (311, 18, 3, 0, 9151), (337, 13, 0, 0, 10033), (339, 4, 365, 0, 10023), (343, 4, 366, 0, 10026)]
def zt_lc32 : List (Nat × Int64 × Nat) := []
def zt_pl33 : List (Nat × Nat × Nat × Nat × Nat) := [(1, 10, 0, 0, 7110)]
def zt_lc33 : List (Nat × Int64 × Nat) := []
def zt_pl34 : List (Nat × Nat × Nat × Nat × Nat) := [(27, 14, 1, 0, 7153), (31, 14, 2, 0, 7155)]
def zt_lc34 : List (Nat × Int64 × Nat) := []
def zt_pl35 : List (Nat × Nat × Nat × Nat × Nat) := [(3, 10, 0, 0, 9098), (15, 0, 1, 0, 9107), (18, 14, 6, 0, 9099), (22, 0, 1, 1, 9108), (26, 4, 329, 0, 9100), (32, 6, 128, 0, 9172), (40, 6, 129, 0, 9181), (79, 0, 1, 3, 9110), (108, 4, 336, 0, 9142), (114, 4, 229, 0, 9140), (125, 4, 346, 0, 9186), (226, 4, 338, 0, 9157), (245, 4, 354, 0, 9214), (248, 4, 355, 0, 9217), (251, 4, 356, 0, 9224), (399, 6, 351, 0, 9201)]
def zt_lc35 : List (Nat × Int64 × Nat) := []
/-- calls through List: the named method, the place of the one that runs -/
def zt_ift : List (MethodName × Nat) := [(⟨"java/util/List", "size", "()I"⟩, 221), (⟨"java/util/List", "get", "(I)Ljava/lang/Object;"⟩, 222), (⟨"java/util/List", "add", "(Ljava/lang/Object;)Z"⟩, 225), (⟨"java/util/List", "remove", "(I)Ljava/lang/Object;"⟩, 243), (⟨"java/util/List", "set", "(ILjava/lang/Object;)Ljava/lang/Object;"⟩, 262), (⟨"java/util/List", "clear", "()V"⟩, 317), (⟨"java/util/List", "add", "(ILjava/lang/Object;)V"⟩, 324), (⟨"java/util/List", "isEmpty", "()Z"⟩, 376)]
def zt_pl : List (List (Nat × Nat × Nat × Nat × Nat)) := [zt_pl0, zt_pl1, zt_pl2, zt_pl3, zt_pl4, zt_pl5, zt_pl6, zt_pl7, zt_pl8, zt_pl9, zt_pl10, zt_pl11, zt_pl12, zt_pl13, zt_pl14, zt_pl15, zt_pl16, zt_pl17, zt_pl18, zt_pl19, zt_pl20, zt_pl21, zt_pl22, zt_pl23, zt_pl24, zt_pl25, zt_pl26, zt_pl27, zt_pl28, zt_pl29, zt_pl30, zt_pl31, zt_pl32, zt_pl33, zt_pl34, zt_pl35]
def zt_lc : List (List (Nat × Int64 × Nat)) := [zt_lc0, zt_lc1, zt_lc2, zt_lc3, zt_lc4, zt_lc5, zt_lc6, zt_lc7, zt_lc8, zt_lc9, zt_lc10, zt_lc11, zt_lc12, zt_lc13, zt_lc14, zt_lc15, zt_lc16, zt_lc17, zt_lc18, zt_lc19, zt_lc20, zt_lc21, zt_lc22, zt_lc23, zt_lc24, zt_lc25, zt_lc26, zt_lc27, zt_lc28, zt_lc29, zt_lc30, zt_lc31, zt_lc32, zt_lc33, zt_lc34, zt_lc35]
/-- classes none of whose methods is the machine's own -/
def zt_pln : List Bool := [true, true, true, true, true, true, true, true, true, true, true, true, true, true, true, true, true, true, true, true, true, true, true, true, false, true, true, true, true, true, true, true, true, true, true, true]
/-- the class of an array's component: its place, or 999 -/
def zt_atc : List Nat := [13, 999, 999, 999, 17, 999, 999, 999]
/-- is a field declared by the class itself -/
def zt_own : List (List Bool) := [[true, true, true, true], [false, false, false, false], [true], [true], [false, true, true], [true, true, true], [true, true, true, true, true, true, true], [true, true], [true, true, true, true, true], [true, true], [true, true, true, true], [true, true, true, true, true, true, true], [true, true, true], [true, true, true, true, true, true], [true, true, true, true], [true, true, true, true, true, true], [true, true, true, true], [true, true, true, true], [true, true, true, true, true, true, true, true, true, true, true, true, true, true, true, true]]
/-- the types of the fields -/
def zt_fty : List (List FieldType) := [[.array (.byte), .byte, .int, .boolean], [.array (.byte), .byte, .boolean, .int], [.int], [.long], [.int, .array (.object "java/lang/Object"), .int], [.object "ColumnVault$Sheet", .object "ColumnVault$Groups", .array (.long)], [.object "ColumnVault$Tokens", .object "ColumnVault$Sheet", .array (.long), .int, .int, .int, .int], [.array (.int), .int], [.object "ColumnVault$Sheet", .array (.long), .array (.long), .int, .int], [.array (.object "ColumnVault$Sheet"), .int], [.object "ColumnVault$Sheet", .int, .object "ColumnVault$Sheet", .int], [.int, .long, .object "ColumnVault$Node", .object "ColumnVault$Node", .object "ColumnVault$Node", .object "ColumnVault$Node", .object "ColumnVault$Node"], [.array (.int), .array (.int), .int], [.array (.int), .array (.long), .array (.int), .int, .int, .long], [.array (.int), .array (.int), .array (.long), .int], [.object "ColumnVault$History", .object "ColumnVault$FilterText", .object "ColumnVault$Tokens", .object "ColumnVault$Pairs", .object "ColumnVault$Groups", .object "ColumnVault$Checks"], [.int, .object "java/util/List", .int, .object "java/util/List"], [.object "java/util/List", .object "java/util/List", .object "java/util/List", .object "java/util/List"], [.int, .array (.object "ColumnVaultModel$Table"), .object "java/util/List", .int, .array (.int), .int, .int, .int, .int, .int, .int, .object "ColumnVaultModel$Table", .object "java/util/List", .object "ColumnVaultModel$Table", .int, .object "java/util/List"]]
