section
-- ===== PART A: goes FIRST, ahead of the names: the tables' words, and 'selects' of the private methods out of them =====
/-- a private method of a class that the tables say can be made, by its rows of tables_1 -/
def lw_okq (q : MethodName × Nat) : Prop := (q.1.cls ≠ "java/lang/invoke/MethodHandle" ∧ q.1.cls ≠ "java/lang/invoke/VarHandle") ∧ Cond.instantiable q.1.cls q.2 ∈ tables_1 ∧ Cond.privateMethod q.1 ∈ tables_1 ∧ Cond.instanceMethod q.1 ∈ tables_1
theorem lw_p0 : lw_okq (⟨"ColumnVault", "sheetOf", "(I)LColumnVault$Sheet;"⟩, 6) := ⟨⟨by decide +kernel, by decide +kernel⟩, List.mem_of_getElem? (i := 43) (by decide +kernel), List.mem_of_getElem? (i := 241) (by decide +kernel), List.mem_of_getElem? (i := 242) (by decide +kernel)⟩
theorem lw_p1 : lw_okq (⟨"java/lang/Throwable", "fillInStackTrace", "(I)Ljava/lang/Throwable;"⟩, 6) := ⟨⟨by decide +kernel, by decide +kernel⟩, List.mem_of_getElem? (i := 288) (by decide +kernel), List.mem_of_getElem? (i := 286) (by decide +kernel), List.mem_of_getElem? (i := 287) (by decide +kernel)⟩
theorem lw_p2 : lw_okq (⟨"ColumnVault", "nextSheetOf", "(I)LColumnVault$Sheet;"⟩, 6) := ⟨⟨by decide +kernel, by decide +kernel⟩, List.mem_of_getElem? (i := 43) (by decide +kernel), List.mem_of_getElem? (i := 350) (by decide +kernel), List.mem_of_getElem? (i := 351) (by decide +kernel)⟩
theorem lw_p3 : lw_okq (⟨"ColumnVault", "sheetWith", "(II)LColumnVault$Sheet;"⟩, 6) := ⟨⟨by decide +kernel, by decide +kernel⟩, List.mem_of_getElem? (i := 43) (by decide +kernel), List.mem_of_getElem? (i := 402) (by decide +kernel), List.mem_of_getElem? (i := 403) (by decide +kernel)⟩
theorem lw_p4 : lw_okq (⟨"ColumnVault$Sheet", "dropFromOrder", "(I)V"⟩, 6) := ⟨⟨by decide +kernel, by decide +kernel⟩, List.mem_of_getElem? (i := 58) (by decide +kernel), List.mem_of_getElem? (i := 465) (by decide +kernel), List.mem_of_getElem? (i := 466) (by decide +kernel)⟩
theorem lw_p5 : lw_okq (⟨"ColumnVault", "filterOf", "(I)LColumnVault$Node;"⟩, 6) := ⟨⟨by decide +kernel, by decide +kernel⟩, List.mem_of_getElem? (i := 43) (by decide +kernel), List.mem_of_getElem? (i := 594) (by decide +kernel), List.mem_of_getElem? (i := 595) (by decide +kernel)⟩
theorem lw_p6 : lw_okq (⟨"ColumnVault", "readerOf", "(I)LColumnVault$FilterReader;"⟩, 6) := ⟨⟨by decide +kernel, by decide +kernel⟩, List.mem_of_getElem? (i := 43) (by decide +kernel), List.mem_of_getElem? (i := 598) (by decide +kernel), List.mem_of_getElem? (i := 599) (by decide +kernel)⟩
theorem lw_p7 : lw_okq (⟨"ColumnVault$Tokens", "readToken", "(LColumnVault$FilterText;I)I"⟩, 4) := ⟨⟨by decide +kernel, by decide +kernel⟩, List.mem_of_getElem? (i := 120) (by decide +kernel), List.mem_of_getElem? (i := 644) (by decide +kernel), List.mem_of_getElem? (i := 645) (by decide +kernel)⟩
theorem lw_p8 : lw_okq (⟨"ColumnVault$Tokens", "put", "(IIJ)V"⟩, 4) := ⟨⟨by decide +kernel, by decide +kernel⟩, List.mem_of_getElem? (i := 120) (by decide +kernel), List.mem_of_getElem? (i := 649) (by decide +kernel), List.mem_of_getElem? (i := 650) (by decide +kernel)⟩
theorem lw_p9 : lw_okq (⟨"ColumnVault$Tokens", "readWord", "(LColumnVault$FilterText;I)I"⟩, 4) := ⟨⟨by decide +kernel, by decide +kernel⟩, List.mem_of_getElem? (i := 120) (by decide +kernel), List.mem_of_getElem? (i := 657) (by decide +kernel), List.mem_of_getElem? (i := 658) (by decide +kernel)⟩
theorem lw_p10 : lw_okq (⟨"ColumnVault$Tokens", "readNumber", "(LColumnVault$FilterText;I)I"⟩, 4) := ⟨⟨by decide +kernel, by decide +kernel⟩, List.mem_of_getElem? (i := 120) (by decide +kernel), List.mem_of_getElem? (i := 662) (by decide +kernel), List.mem_of_getElem? (i := 663) (by decide +kernel)⟩
theorem lw_p11 : lw_okq (⟨"ColumnVault$FilterReader", "readFilter", "(I)LColumnVault$Node;"⟩, 7) := ⟨⟨by decide +kernel, by decide +kernel⟩, List.mem_of_getElem? (i := 602) (by decide +kernel), List.mem_of_getElem? (i := 676) (by decide +kernel), List.mem_of_getElem? (i := 677) (by decide +kernel)⟩
theorem lw_p12 : lw_okq (⟨"ColumnVault$FilterReader", "readPart", "(I)LColumnVault$Node;"⟩, 7) := ⟨⟨by decide +kernel, by decide +kernel⟩, List.mem_of_getElem? (i := 602) (by decide +kernel), List.mem_of_getElem? (i := 714) (by decide +kernel), List.mem_of_getElem? (i := 715) (by decide +kernel)⟩
theorem lw_p13 : lw_okq (⟨"ColumnVault$FilterReader", "readPiece", "(I)LColumnVault$Node;"⟩, 7) := ⟨⟨by decide +kernel, by decide +kernel⟩, List.mem_of_getElem? (i := 602) (by decide +kernel), List.mem_of_getElem? (i := 722) (by decide +kernel), List.mem_of_getElem? (i := 723) (by decide +kernel)⟩
theorem lw_p14 : lw_okq (⟨"ColumnVault$FilterReader", "takes", "(I)Z"⟩, 7) := ⟨⟨by decide +kernel, by decide +kernel⟩, List.mem_of_getElem? (i := 602) (by decide +kernel), List.mem_of_getElem? (i := 726) (by decide +kernel), List.mem_of_getElem? (i := 727) (by decide +kernel)⟩
theorem lw_p15 : lw_okq (⟨"ColumnVault$FilterReader", "fail", "(II)LColumnVault$Node;"⟩, 7) := ⟨⟨by decide +kernel, by decide +kernel⟩, List.mem_of_getElem? (i := 602) (by decide +kernel), List.mem_of_getElem? (i := 738) (by decide +kernel), List.mem_of_getElem? (i := 739) (by decide +kernel)⟩
def lw_privs_1 : List (MethodName × Nat) := [(⟨"ColumnVault", "sheetOf", "(I)LColumnVault$Sheet;"⟩, 6), (⟨"java/lang/Throwable", "fillInStackTrace", "(I)Ljava/lang/Throwable;"⟩, 6), (⟨"ColumnVault", "nextSheetOf", "(I)LColumnVault$Sheet;"⟩, 6), (⟨"ColumnVault", "sheetWith", "(II)LColumnVault$Sheet;"⟩, 6), (⟨"ColumnVault$Sheet", "dropFromOrder", "(I)V"⟩, 6), (⟨"ColumnVault", "filterOf", "(I)LColumnVault$Node;"⟩, 6), (⟨"ColumnVault", "readerOf", "(I)LColumnVault$FilterReader;"⟩, 6), (⟨"ColumnVault$Tokens", "readToken", "(LColumnVault$FilterText;I)I"⟩, 4), (⟨"ColumnVault$Tokens", "put", "(IIJ)V"⟩, 4), (⟨"ColumnVault$Tokens", "readWord", "(LColumnVault$FilterText;I)I"⟩, 4), (⟨"ColumnVault$Tokens", "readNumber", "(LColumnVault$FilterText;I)I"⟩, 4), (⟨"ColumnVault$FilterReader", "readFilter", "(I)LColumnVault$Node;"⟩, 7), (⟨"ColumnVault$FilterReader", "readPart", "(I)LColumnVault$Node;"⟩, 7), (⟨"ColumnVault$FilterReader", "readPiece", "(I)LColumnVault$Node;"⟩, 7), (⟨"ColumnVault$FilterReader", "takes", "(I)Z"⟩, 7), (⟨"ColumnVault$FilterReader", "fail", "(II)LColumnVault$Node;"⟩, 7)]
theorem lw_r1 : ∀ q ∈ lw_privs_1, lw_okq q := List.forall_mem_cons.mpr ⟨lw_p0, List.forall_mem_cons.mpr ⟨lw_p1, List.forall_mem_cons.mpr ⟨lw_p2, List.forall_mem_cons.mpr ⟨lw_p3, List.forall_mem_cons.mpr ⟨lw_p4, List.forall_mem_cons.mpr ⟨lw_p5, List.forall_mem_cons.mpr ⟨lw_p6, List.forall_mem_cons.mpr ⟨lw_p7, List.forall_mem_cons.mpr ⟨lw_p8, List.forall_mem_cons.mpr ⟨lw_p9, List.forall_mem_cons.mpr ⟨lw_p10, List.forall_mem_cons.mpr ⟨lw_p11, List.forall_mem_cons.mpr ⟨lw_p12, List.forall_mem_cons.mpr ⟨lw_p13, List.forall_mem_cons.mpr ⟨lw_p14, List.forall_mem_cons.mpr ⟨lw_p15, fun _ h => absurd h List.not_mem_nil⟩⟩⟩⟩⟩⟩⟩⟩⟩⟩⟩⟩⟩⟩⟩⟩
theorem lw_p16 : lw_okq (⟨"ColumnVault$FilterReader", "readBrackets", "(I)LColumnVault$Node;"⟩, 7) := ⟨⟨by decide +kernel, by decide +kernel⟩, List.mem_of_getElem? (i := 602) (by decide +kernel), List.mem_of_getElem? (i := 742) (by decide +kernel), List.mem_of_getElem? (i := 743) (by decide +kernel)⟩
theorem lw_p17 : lw_okq (⟨"ColumnVault$FilterReader", "readTest", "()LColumnVault$Node;"⟩, 7) := ⟨⟨by decide +kernel, by decide +kernel⟩, List.mem_of_getElem? (i := 602) (by decide +kernel), List.mem_of_getElem? (i := 746) (by decide +kernel), List.mem_of_getElem? (i := 747) (by decide +kernel)⟩
theorem lw_p18 : lw_okq (⟨"ColumnVault$FilterReader", "askedBy", "(I)I"⟩, 7) := ⟨⟨by decide +kernel, by decide +kernel⟩, List.mem_of_getElem? (i := 602) (by decide +kernel), List.mem_of_getElem? (i := 755) (by decide +kernel), List.mem_of_getElem? (i := 756) (by decide +kernel)⟩
theorem lw_p19 : lw_okq (⟨"ColumnVault$FilterReader", "readValues", "(II)Z"⟩, 7) := ⟨⟨by decide +kernel, by decide +kernel⟩, List.mem_of_getElem? (i := 602) (by decide +kernel), List.mem_of_getElem? (i := 764) (by decide +kernel), List.mem_of_getElem? (i := 765) (by decide +kernel)⟩
theorem lw_p20 : lw_okq (⟨"ColumnVault$FilterReader", "isValueNext", "()Z"⟩, 7) := ⟨⟨by decide +kernel, by decide +kernel⟩, List.mem_of_getElem? (i := 602) (by decide +kernel), List.mem_of_getElem? (i := 768) (by decide +kernel), List.mem_of_getElem? (i := 769) (by decide +kernel)⟩
theorem lw_p21 : lw_okq (⟨"ColumnVault$FilterReader", "readValue", "(I)Z"⟩, 7) := ⟨⟨by decide +kernel, by decide +kernel⟩, List.mem_of_getElem? (i := 602) (by decide +kernel), List.mem_of_getElem? (i := 772) (by decide +kernel), List.mem_of_getElem? (i := 773) (by decide +kernel)⟩
theorem lw_p22 : lw_okq (⟨"ColumnVault$FilterReader", "rowsOfTest", "(II)J"⟩, 7) := ⟨⟨by decide +kernel, by decide +kernel⟩, List.mem_of_getElem? (i := 602) (by decide +kernel), List.mem_of_getElem? (i := 778) (by decide +kernel), List.mem_of_getElem? (i := 779) (by decide +kernel)⟩
theorem lw_p23 : lw_okq (⟨"ColumnVault$Node", "putByCounts", "(LColumnVault$Node;)V"⟩, 7) := ⟨⟨by decide +kernel, by decide +kernel⟩, List.mem_of_getElem? (i := 680) (by decide +kernel), List.mem_of_getElem? (i := 794) (by decide +kernel), List.mem_of_getElem? (i := 795) (by decide +kernel)⟩
theorem lw_p24 : lw_okq (⟨"ColumnVault$Node", "isFirst", "(LColumnVault$Node;LColumnVault$Node;)Z"⟩, 7) := ⟨⟨by decide +kernel, by decide +kernel⟩, List.mem_of_getElem? (i := 680) (by decide +kernel), List.mem_of_getElem? (i := 798) (by decide +kernel), List.mem_of_getElem? (i := 799) (by decide +kernel)⟩
theorem lw_p25 : lw_okq (⟨"ColumnVault$FilterText", "append", "(I)V"⟩, 2) := ⟨⟨by decide +kernel, by decide +kernel⟩, List.mem_of_getElem? (i := 105) (by decide +kernel), List.mem_of_getElem? (i := 860) (by decide +kernel), List.mem_of_getElem? (i := 861) (by decide +kernel)⟩
theorem lw_p26 : lw_okq (⟨"ColumnVault$Pairs", "putRow", "(IJI)V"⟩, 3) := ⟨⟨by decide +kernel, by decide +kernel⟩, List.mem_of_getElem? (i := 139) (by decide +kernel), List.mem_of_getElem? (i := 947) (by decide +kernel), List.mem_of_getElem? (i := 948) (by decide +kernel)⟩
theorem lw_p27 : lw_okq (⟨"ColumnVault$Pairs", "put", "(II)V"⟩, 3) := ⟨⟨by decide +kernel, by decide +kernel⟩, List.mem_of_getElem? (i := 139) (by decide +kernel), List.mem_of_getElem? (i := 951) (by decide +kernel), List.mem_of_getElem? (i := 952) (by decide +kernel)⟩
theorem lw_p28 : lw_okq (⟨"ColumnVault$JoinWays", "byMerging", "([I[I)[J"⟩, 4) := ⟨⟨by decide +kernel, by decide +kernel⟩, List.mem_of_getElem? (i := 974) (by decide +kernel), List.mem_of_getElem? (i := 1008) (by decide +kernel), List.mem_of_getElem? (i := 1009) (by decide +kernel)⟩
theorem lw_p29 : lw_okq (⟨"ColumnVault$JoinWays", "rowsWithKeyFrom", "([IIJ)J"⟩, 4) := ⟨⟨by decide +kernel, by decide +kernel⟩, List.mem_of_getElem? (i := 974) (by decide +kernel), List.mem_of_getElem? (i := 1014) (by decide +kernel), List.mem_of_getElem? (i := 1015) (by decide +kernel)⟩
theorem lw_p30 : lw_okq (⟨"ColumnVault$JoinWays", "byLookingUp", "([I)[J"⟩, 4) := ⟨⟨by decide +kernel, by decide +kernel⟩, List.mem_of_getElem? (i := 974) (by decide +kernel), List.mem_of_getElem? (i := 1019) (by decide +kernel), List.mem_of_getElem? (i := 1020) (by decide +kernel)⟩
theorem lw_p31 : lw_okq (⟨"ColumnVault$JoinWays", "firstPlaceOf", "([IJ)I"⟩, 4) := ⟨⟨by decide +kernel, by decide +kernel⟩, List.mem_of_getElem? (i := 974) (by decide +kernel), List.mem_of_getElem? (i := 1025) (by decide +kernel), List.mem_of_getElem? (i := 1026) (by decide +kernel)⟩
def lw_privs_2 : List (MethodName × Nat) := [(⟨"ColumnVault$FilterReader", "readBrackets", "(I)LColumnVault$Node;"⟩, 7), (⟨"ColumnVault$FilterReader", "readTest", "()LColumnVault$Node;"⟩, 7), (⟨"ColumnVault$FilterReader", "askedBy", "(I)I"⟩, 7), (⟨"ColumnVault$FilterReader", "readValues", "(II)Z"⟩, 7), (⟨"ColumnVault$FilterReader", "isValueNext", "()Z"⟩, 7), (⟨"ColumnVault$FilterReader", "readValue", "(I)Z"⟩, 7), (⟨"ColumnVault$FilterReader", "rowsOfTest", "(II)J"⟩, 7), (⟨"ColumnVault$Node", "putByCounts", "(LColumnVault$Node;)V"⟩, 7), (⟨"ColumnVault$Node", "isFirst", "(LColumnVault$Node;LColumnVault$Node;)Z"⟩, 7), (⟨"ColumnVault$FilterText", "append", "(I)V"⟩, 2), (⟨"ColumnVault$Pairs", "putRow", "(IJI)V"⟩, 3), (⟨"ColumnVault$Pairs", "put", "(II)V"⟩, 3), (⟨"ColumnVault$JoinWays", "byMerging", "([I[I)[J"⟩, 4), (⟨"ColumnVault$JoinWays", "rowsWithKeyFrom", "([IIJ)J"⟩, 4), (⟨"ColumnVault$JoinWays", "byLookingUp", "([I)[J"⟩, 4), (⟨"ColumnVault$JoinWays", "firstPlaceOf", "([IJ)I"⟩, 4)]
theorem lw_r2 : ∀ q ∈ lw_privs_2, lw_okq q := List.forall_mem_cons.mpr ⟨lw_p16, List.forall_mem_cons.mpr ⟨lw_p17, List.forall_mem_cons.mpr ⟨lw_p18, List.forall_mem_cons.mpr ⟨lw_p19, List.forall_mem_cons.mpr ⟨lw_p20, List.forall_mem_cons.mpr ⟨lw_p21, List.forall_mem_cons.mpr ⟨lw_p22, List.forall_mem_cons.mpr ⟨lw_p23, List.forall_mem_cons.mpr ⟨lw_p24, List.forall_mem_cons.mpr ⟨lw_p25, List.forall_mem_cons.mpr ⟨lw_p26, List.forall_mem_cons.mpr ⟨lw_p27, List.forall_mem_cons.mpr ⟨lw_p28, List.forall_mem_cons.mpr ⟨lw_p29, List.forall_mem_cons.mpr ⟨lw_p30, List.forall_mem_cons.mpr ⟨lw_p31, fun _ h => absurd h List.not_mem_nil⟩⟩⟩⟩⟩⟩⟩⟩⟩⟩⟩⟩⟩⟩⟩⟩
theorem lw_p32 : lw_okq (⟨"ColumnVault$JoinWays", "byTrying", "()[J"⟩, 4) := ⟨⟨by decide +kernel, by decide +kernel⟩, List.mem_of_getElem? (i := 974) (by decide +kernel), List.mem_of_getElem? (i := 1029) (by decide +kernel), List.mem_of_getElem? (i := 1030) (by decide +kernel)⟩
theorem lw_p33 : lw_okq (⟨"ColumnVault$Groups", "put", "(I)V"⟩, 5) := ⟨⟨by decide +kernel, by decide +kernel⟩, List.mem_of_getElem? (i := 156) (by decide +kernel), List.mem_of_getElem? (i := 1048) (by decide +kernel), List.mem_of_getElem? (i := 1049) (by decide +kernel)⟩
theorem lw_p34 : lw_okq (⟨"ColumnVault$Groups", "open", "(IJ)V"⟩, 5) := ⟨⟨by decide +kernel, by decide +kernel⟩, List.mem_of_getElem? (i := 156) (by decide +kernel), List.mem_of_getElem? (i := 1054) (by decide +kernel), List.mem_of_getElem? (i := 1055) (by decide +kernel)⟩
theorem lw_p35 : lw_okq (⟨"ColumnVault", "requireGroup", "(I)V"⟩, 6) := ⟨⟨by decide +kernel, by decide +kernel⟩, List.mem_of_getElem? (i := 43) (by decide +kernel), List.mem_of_getElem? (i := 1065) (by decide +kernel), List.mem_of_getElem? (i := 1066) (by decide +kernel)⟩
theorem lw_p36 : lw_okq (⟨"ColumnVault$Sheet", "chosenAlike", "(ILColumnVault$Sheet;)J"⟩, 6) := ⟨⟨by decide +kernel, by decide +kernel⟩, List.mem_of_getElem? (i := 58) (by decide +kernel), List.mem_of_getElem? (i := 1208) (by decide +kernel), List.mem_of_getElem? (i := 1209) (by decide +kernel)⟩
theorem lw_p37 : lw_okq (⟨"ColumnVault$Sheet", "isAlike", "(ILColumnVault$Sheet;I)Z"⟩, 6) := ⟨⟨by decide +kernel, by decide +kernel⟩, List.mem_of_getElem? (i := 58) (by decide +kernel), List.mem_of_getElem? (i := 1212) (by decide +kernel), List.mem_of_getElem? (i := 1213) (by decide +kernel)⟩
theorem lw_p38 : lw_okq (⟨"ColumnVault$Checks", "isInBothOrders", "(LColumnVault$Sheet;II)Z"⟩, 3) := ⟨⟨by decide +kernel, by decide +kernel⟩, List.mem_of_getElem? (i := 184) (by decide +kernel), List.mem_of_getElem? (i := 1237) (by decide +kernel), List.mem_of_getElem? (i := 1238) (by decide +kernel)⟩
theorem lw_p39 : lw_okq (⟨"ColumnVault$Checks", "standsAhead", "(LColumnVault$Sheet;IIII)Z"⟩, 3) := ⟨⟨by decide +kernel, by decide +kernel⟩, List.mem_of_getElem? (i := 184) (by decide +kernel), List.mem_of_getElem? (i := 1244) (by decide +kernel), List.mem_of_getElem? (i := 1245) (by decide +kernel)⟩
theorem lw_p40 : lw_okq (⟨"ColumnVault$Checks", "groupFailures", "(LColumnVault$Sheet;I)I"⟩, 3) := ⟨⟨by decide +kernel, by decide +kernel⟩, List.mem_of_getElem? (i := 184) (by decide +kernel), List.mem_of_getElem? (i := 1253) (by decide +kernel), List.mem_of_getElem? (i := 1254) (by decide +kernel)⟩
theorem lw_p41 : lw_okq (⟨"ColumnVault$Checks", "sumOfGroups", "(I)J"⟩, 3) := ⟨⟨by decide +kernel, by decide +kernel⟩, List.mem_of_getElem? (i := 184) (by decide +kernel), List.mem_of_getElem? (i := 1261) (by decide +kernel), List.mem_of_getElem? (i := 1262) (by decide +kernel)⟩
theorem lw_p42 : lw_okq (⟨"ColumnVault$Checks", "rangeFailures", "(LColumnVault$Sheet;I)I"⟩, 3) := ⟨⟨by decide +kernel, by decide +kernel⟩, List.mem_of_getElem? (i := 184) (by decide +kernel), List.mem_of_getElem? (i := 1266) (by decide +kernel), List.mem_of_getElem? (i := 1267) (by decide +kernel)⟩
theorem lw_p43 : lw_okq (⟨"ColumnVault$Checks", "failuresFrom", "(IJ)I"⟩, 3) := ⟨⟨by decide +kernel, by decide +kernel⟩, List.mem_of_getElem? (i := 184) (by decide +kernel), List.mem_of_getElem? (i := 1275) (by decide +kernel), List.mem_of_getElem? (i := 1276) (by decide +kernel)⟩
theorem lw_p44 : lw_okq (⟨"java/util/ArrayList", "add", "(Ljava/lang/Object;[Ljava/lang/Object;I)V"⟩, 3) := ⟨⟨by decide +kernel, by decide +kernel⟩, List.mem_of_getElem? (i := 1310) (by decide +kernel), List.mem_of_getElem? (i := 1401) (by decide +kernel), List.mem_of_getElem? (i := 1402) (by decide +kernel)⟩
theorem lw_p45 : lw_okq (⟨"java/util/ArrayList", "grow", "()[Ljava/lang/Object;"⟩, 3) := ⟨⟨by decide +kernel, by decide +kernel⟩, List.mem_of_getElem? (i := 1310) (by decide +kernel), List.mem_of_getElem? (i := 1405) (by decide +kernel), List.mem_of_getElem? (i := 1406) (by decide +kernel)⟩
theorem lw_p46 : lw_okq (⟨"java/util/ArrayList", "grow", "(I)[Ljava/lang/Object;"⟩, 3) := ⟨⟨by decide +kernel, by decide +kernel⟩, List.mem_of_getElem? (i := 1310) (by decide +kernel), List.mem_of_getElem? (i := 1409) (by decide +kernel), List.mem_of_getElem? (i := 1410) (by decide +kernel)⟩
theorem lw_p47 : lw_okq (⟨"ColumnVaultModel", "passes", "(ZZZ)Z"⟩, 16) := ⟨⟨by decide +kernel, by decide +kernel⟩, List.mem_of_getElem? (i := 1297) (by decide +kernel), List.mem_of_getElem? (i := 1532) (by decide +kernel), List.mem_of_getElem? (i := 1533) (by decide +kernel)⟩
def lw_privs_3 : List (MethodName × Nat) := [(⟨"ColumnVault$JoinWays", "byTrying", "()[J"⟩, 4), (⟨"ColumnVault$Groups", "put", "(I)V"⟩, 5), (⟨"ColumnVault$Groups", "open", "(IJ)V"⟩, 5), (⟨"ColumnVault", "requireGroup", "(I)V"⟩, 6), (⟨"ColumnVault$Sheet", "chosenAlike", "(ILColumnVault$Sheet;)J"⟩, 6), (⟨"ColumnVault$Sheet", "isAlike", "(ILColumnVault$Sheet;I)Z"⟩, 6), (⟨"ColumnVault$Checks", "isInBothOrders", "(LColumnVault$Sheet;II)Z"⟩, 3), (⟨"ColumnVault$Checks", "standsAhead", "(LColumnVault$Sheet;IIII)Z"⟩, 3), (⟨"ColumnVault$Checks", "groupFailures", "(LColumnVault$Sheet;I)I"⟩, 3), (⟨"ColumnVault$Checks", "sumOfGroups", "(I)J"⟩, 3), (⟨"ColumnVault$Checks", "rangeFailures", "(LColumnVault$Sheet;I)I"⟩, 3), (⟨"ColumnVault$Checks", "failuresFrom", "(IJ)I"⟩, 3), (⟨"java/util/ArrayList", "add", "(Ljava/lang/Object;[Ljava/lang/Object;I)V"⟩, 3), (⟨"java/util/ArrayList", "grow", "()[Ljava/lang/Object;"⟩, 3), (⟨"java/util/ArrayList", "grow", "(I)[Ljava/lang/Object;"⟩, 3), (⟨"ColumnVaultModel", "passes", "(ZZZ)Z"⟩, 16)]
theorem lw_r3 : ∀ q ∈ lw_privs_3, lw_okq q := List.forall_mem_cons.mpr ⟨lw_p32, List.forall_mem_cons.mpr ⟨lw_p33, List.forall_mem_cons.mpr ⟨lw_p34, List.forall_mem_cons.mpr ⟨lw_p35, List.forall_mem_cons.mpr ⟨lw_p36, List.forall_mem_cons.mpr ⟨lw_p37, List.forall_mem_cons.mpr ⟨lw_p38, List.forall_mem_cons.mpr ⟨lw_p39, List.forall_mem_cons.mpr ⟨lw_p40, List.forall_mem_cons.mpr ⟨lw_p41, List.forall_mem_cons.mpr ⟨lw_p42, List.forall_mem_cons.mpr ⟨lw_p43, List.forall_mem_cons.mpr ⟨lw_p44, List.forall_mem_cons.mpr ⟨lw_p45, List.forall_mem_cons.mpr ⟨lw_p46, List.forall_mem_cons.mpr ⟨lw_p47, fun _ h => absurd h List.not_mem_nil⟩⟩⟩⟩⟩⟩⟩⟩⟩⟩⟩⟩⟩⟩⟩⟩
theorem lw_p48 : lw_okq (⟨"ColumnVaultModel", "changed", "(I)I"⟩, 16) := ⟨⟨by decide +kernel, by decide +kernel⟩, List.mem_of_getElem? (i := 1297) (by decide +kernel), List.mem_of_getElem? (i := 1556) (by decide +kernel), List.mem_of_getElem? (i := 1557) (by decide +kernel)⟩
theorem lw_p49 : lw_okq (⟨"java/util/ArrayList", "fastRemove", "([Ljava/lang/Object;I)V"⟩, 3) := ⟨⟨by decide +kernel, by decide +kernel⟩, List.mem_of_getElem? (i := 1310) (by decide +kernel), List.mem_of_getElem? (i := 1571) (by decide +kernel), List.mem_of_getElem? (i := 1572) (by decide +kernel)⟩
theorem lw_p50 : lw_okq (⟨"ColumnVaultModel", "isColumn", "(II)Z"⟩, 16) := ⟨⟨by decide +kernel, by decide +kernel⟩, List.mem_of_getElem? (i := 1297) (by decide +kernel), List.mem_of_getElem? (i := 1602) (by decide +kernel), List.mem_of_getElem? (i := 1603) (by decide +kernel)⟩
theorem lw_p51 : lw_okq (⟨"ColumnVaultModel", "isRow", "(II)Z"⟩, 16) := ⟨⟨by decide +kernel, by decide +kernel⟩, List.mem_of_getElem? (i := 1297) (by decide +kernel), List.mem_of_getElem? (i := 1626) (by decide +kernel), List.mem_of_getElem? (i := 1627) (by decide +kernel)⟩
theorem lw_p52 : lw_okq (⟨"ColumnVaultModel$Table", "isAhead", "(IIIZZ)Z"⟩, 4) := ⟨⟨by decide +kernel, by decide +kernel⟩, List.mem_of_getElem? (i := 1304) (by decide +kernel), List.mem_of_getElem? (i := 1718) (by decide +kernel), List.mem_of_getElem? (i := 1719) (by decide +kernel)⟩
theorem lw_p53 : lw_okq (⟨"ColumnVaultModel", "filter", "(I)LColumnVaultModel$Node;"⟩, 16) := ⟨⟨by decide +kernel, by decide +kernel⟩, List.mem_of_getElem? (i := 1297) (by decide +kernel), List.mem_of_getElem? (i := 1751) (by decide +kernel), List.mem_of_getElem? (i := 1752) (by decide +kernel)⟩
theorem lw_p54 : lw_okq (⟨"ColumnVaultModel", "filterPart", "(I)LColumnVaultModel$Node;"⟩, 16) := ⟨⟨by decide +kernel, by decide +kernel⟩, List.mem_of_getElem? (i := 1297) (by decide +kernel), List.mem_of_getElem? (i := 1755) (by decide +kernel), List.mem_of_getElem? (i := 1756) (by decide +kernel)⟩
theorem lw_p55 : lw_okq (⟨"ColumnVaultModel", "piece", "(I)LColumnVaultModel$Node;"⟩, 16) := ⟨⟨by decide +kernel, by decide +kernel⟩, List.mem_of_getElem? (i := 1297) (by decide +kernel), List.mem_of_getElem? (i := 1784) (by decide +kernel), List.mem_of_getElem? (i := 1785) (by decide +kernel)⟩
theorem lw_p56 : lw_okq (⟨"ColumnVaultModel", "next", "()I"⟩, 16) := ⟨⟨by decide +kernel, by decide +kernel⟩, List.mem_of_getElem? (i := 1297) (by decide +kernel), List.mem_of_getElem? (i := 1788) (by decide +kernel), List.mem_of_getElem? (i := 1789) (by decide +kernel)⟩
theorem lw_p57 : lw_okq (⟨"ColumnVaultModel", "signAt", "(I)I"⟩, 16) := ⟨⟨by decide +kernel, by decide +kernel⟩, List.mem_of_getElem? (i := 1297) (by decide +kernel), List.mem_of_getElem? (i := 1792) (by decide +kernel), List.mem_of_getElem? (i := 1793) (by decide +kernel)⟩
theorem lw_p58 : lw_okq (⟨"ColumnVaultModel", "opposite", "(I)LColumnVaultModel$Node;"⟩, 16) := ⟨⟨by decide +kernel, by decide +kernel⟩, List.mem_of_getElem? (i := 1297) (by decide +kernel), List.mem_of_getElem? (i := 1796) (by decide +kernel), List.mem_of_getElem? (i := 1797) (by decide +kernel)⟩
theorem lw_p59 : lw_okq (⟨"ColumnVaultModel", "fails", "(II)V"⟩, 16) := ⟨⟨by decide +kernel, by decide +kernel⟩, List.mem_of_getElem? (i := 1297) (by decide +kernel), List.mem_of_getElem? (i := 1800) (by decide +kernel), List.mem_of_getElem? (i := 1801) (by decide +kernel)⟩
theorem lw_p60 : lw_okq (⟨"ColumnVaultModel", "brackets", "()LColumnVaultModel$Node;"⟩, 16) := ⟨⟨by decide +kernel, by decide +kernel⟩, List.mem_of_getElem? (i := 1297) (by decide +kernel), List.mem_of_getElem? (i := 1804) (by decide +kernel), List.mem_of_getElem? (i := 1805) (by decide +kernel)⟩
theorem lw_p61 : lw_okq (⟨"ColumnVaultModel", "test", "()LColumnVaultModel$Node;"⟩, 16) := ⟨⟨by decide +kernel, by decide +kernel⟩, List.mem_of_getElem? (i := 1297) (by decide +kernel), List.mem_of_getElem? (i := 1808) (by decide +kernel), List.mem_of_getElem? (i := 1809) (by decide +kernel)⟩
theorem lw_p62 : lw_okq (⟨"ColumnVaultModel", "sortOfTest", "()I"⟩, 16) := ⟨⟨by decide +kernel, by decide +kernel⟩, List.mem_of_getElem? (i := 1297) (by decide +kernel), List.mem_of_getElem? (i := 1817) (by decide +kernel), List.mem_of_getElem? (i := 1818) (by decide +kernel)⟩
theorem lw_p63 : lw_okq (⟨"ColumnVaultModel", "isWord", "(Ljava/lang/String;)Z"⟩, 16) := ⟨⟨by decide +kernel, by decide +kernel⟩, List.mem_of_getElem? (i := 1297) (by decide +kernel), List.mem_of_getElem? (i := 1822) (by decide +kernel), List.mem_of_getElem? (i := 1823) (by decide +kernel)⟩
def lw_privs_4 : List (MethodName × Nat) := [(⟨"ColumnVaultModel", "changed", "(I)I"⟩, 16), (⟨"java/util/ArrayList", "fastRemove", "([Ljava/lang/Object;I)V"⟩, 3), (⟨"ColumnVaultModel", "isColumn", "(II)Z"⟩, 16), (⟨"ColumnVaultModel", "isRow", "(II)Z"⟩, 16), (⟨"ColumnVaultModel$Table", "isAhead", "(IIIZZ)Z"⟩, 4), (⟨"ColumnVaultModel", "filter", "(I)LColumnVaultModel$Node;"⟩, 16), (⟨"ColumnVaultModel", "filterPart", "(I)LColumnVaultModel$Node;"⟩, 16), (⟨"ColumnVaultModel", "piece", "(I)LColumnVaultModel$Node;"⟩, 16), (⟨"ColumnVaultModel", "next", "()I"⟩, 16), (⟨"ColumnVaultModel", "signAt", "(I)I"⟩, 16), (⟨"ColumnVaultModel", "opposite", "(I)LColumnVaultModel$Node;"⟩, 16), (⟨"ColumnVaultModel", "fails", "(II)V"⟩, 16), (⟨"ColumnVaultModel", "brackets", "()LColumnVaultModel$Node;"⟩, 16), (⟨"ColumnVaultModel", "test", "()LColumnVaultModel$Node;"⟩, 16), (⟨"ColumnVaultModel", "sortOfTest", "()I"⟩, 16), (⟨"ColumnVaultModel", "isWord", "(Ljava/lang/String;)Z"⟩, 16)]
theorem lw_r4 : ∀ q ∈ lw_privs_4, lw_okq q := List.forall_mem_cons.mpr ⟨lw_p48, List.forall_mem_cons.mpr ⟨lw_p49, List.forall_mem_cons.mpr ⟨lw_p50, List.forall_mem_cons.mpr ⟨lw_p51, List.forall_mem_cons.mpr ⟨lw_p52, List.forall_mem_cons.mpr ⟨lw_p53, List.forall_mem_cons.mpr ⟨lw_p54, List.forall_mem_cons.mpr ⟨lw_p55, List.forall_mem_cons.mpr ⟨lw_p56, List.forall_mem_cons.mpr ⟨lw_p57, List.forall_mem_cons.mpr ⟨lw_p58, List.forall_mem_cons.mpr ⟨lw_p59, List.forall_mem_cons.mpr ⟨lw_p60, List.forall_mem_cons.mpr ⟨lw_p61, List.forall_mem_cons.mpr ⟨lw_p62, List.forall_mem_cons.mpr ⟨lw_p63, fun _ h => absurd h List.not_mem_nil⟩⟩⟩⟩⟩⟩⟩⟩⟩⟩⟩⟩⟩⟩⟩⟩
theorem lw_p64 : lw_okq (⟨"ColumnVaultModel", "value", "(LColumnVaultModel$Node;)V"⟩, 16) := ⟨⟨by decide +kernel, by decide +kernel⟩, List.mem_of_getElem? (i := 1297) (by decide +kernel), List.mem_of_getElem? (i := 1833) (by decide +kernel), List.mem_of_getElem? (i := 1834) (by decide +kernel)⟩
theorem lw_p65 : lw_okq (⟨"ColumnVaultModel", "isValueNext", "()Z"⟩, 16) := ⟨⟨by decide +kernel, by decide +kernel⟩, List.mem_of_getElem? (i := 1297) (by decide +kernel), List.mem_of_getElem? (i := 1837) (by decide +kernel), List.mem_of_getElem? (i := 1838) (by decide +kernel)⟩
theorem lw_p66 : lw_okq (⟨"ColumnVaultModel$Node", "holdsTest", "(LColumnVaultModel$Table;I)Z"⟩, 4) := ⟨⟨by decide +kernel, by decide +kernel⟩, List.mem_of_getElem? (i := 1759) (by decide +kernel), List.mem_of_getElem? (i := 1865) (by decide +kernel), List.mem_of_getElem? (i := 1866) (by decide +kernel)⟩
theorem lw_p67 : lw_okq (⟨"ColumnVaultModel$Node", "than", "(LColumnVaultModel$Table;II)I"⟩, 4) := ⟨⟨by decide +kernel, by decide +kernel⟩, List.mem_of_getElem? (i := 1759) (by decide +kernel), List.mem_of_getElem? (i := 1870) (by decide +kernel), List.mem_of_getElem? (i := 1871) (by decide +kernel)⟩
theorem lw_p68 : lw_okq (⟨"ColumnVaultModel$Node", "count", "(LColumnVaultModel$Table;)I"⟩, 4) := ⟨⟨by decide +kernel, by decide +kernel⟩, List.mem_of_getElem? (i := 1759) (by decide +kernel), List.mem_of_getElem? (i := 1901) (by decide +kernel), List.mem_of_getElem? (i := 1902) (by decide +kernel)⟩
theorem lw_p69 : lw_okq (⟨"ColumnVaultModel$Node", "next", "(LColumnVaultModel$Table;[ZZ)I"⟩, 4) := ⟨⟨by decide +kernel, by decide +kernel⟩, List.mem_of_getElem? (i := 1759) (by decide +kernel), List.mem_of_getElem? (i := 1914) (by decide +kernel), List.mem_of_getElem? (i := 1915) (by decide +kernel)⟩
theorem lw_p70 : lw_okq (⟨"ColumnVaultModel", "areColumns", "(IIII)Z"⟩, 16) := ⟨⟨by decide +kernel, by decide +kernel⟩, List.mem_of_getElem? (i := 1297) (by decide +kernel), List.mem_of_getElem? (i := 1949) (by decide +kernel), List.mem_of_getElem? (i := 1950) (by decide +kernel)⟩
theorem lw_p71 : lw_okq (⟨"ColumnVaultModel", "areOfOneKind", "(IIII)Z"⟩, 16) := ⟨⟨by decide +kernel, by decide +kernel⟩, List.mem_of_getElem? (i := 1297) (by decide +kernel), List.mem_of_getElem? (i := 1953) (by decide +kernel), List.mem_of_getElem? (i := 1954) (by decide +kernel)⟩
theorem lw_p72 : lw_okq (⟨"ColumnVaultModel", "arePartners", "(LColumnVaultModel$Table;IILColumnVaultModel$Table;II)Z"⟩, 16) := ⟨⟨by decide +kernel, by decide +kernel⟩, List.mem_of_getElem? (i := 1297) (by decide +kernel), List.mem_of_getElem? (i := 1966) (by decide +kernel), List.mem_of_getElem? (i := 1967) (by decide +kernel)⟩
theorem lw_p73 : lw_okq (⟨"java/util/ArrayList", "rangeCheckForAdd", "(I)V"⟩, 3) := ⟨⟨by decide +kernel, by decide +kernel⟩, List.mem_of_getElem? (i := 1310) (by decide +kernel), List.mem_of_getElem? (i := 2002) (by decide +kernel), List.mem_of_getElem? (i := 2003) (by decide +kernel)⟩
theorem lw_p74 : lw_okq (⟨"java/util/ArrayList", "outOfBoundsMsg", "(I)Ljava/lang/String;"⟩, 3) := ⟨⟨by decide +kernel, by decide +kernel⟩, List.mem_of_getElem? (i := 1310) (by decide +kernel), List.mem_of_getElem? (i := 2007) (by decide +kernel), List.mem_of_getElem? (i := 2008) (by decide +kernel)⟩
def lw_privs_5 : List (MethodName × Nat) := [(⟨"ColumnVaultModel", "value", "(LColumnVaultModel$Node;)V"⟩, 16), (⟨"ColumnVaultModel", "isValueNext", "()Z"⟩, 16), (⟨"ColumnVaultModel$Node", "holdsTest", "(LColumnVaultModel$Table;I)Z"⟩, 4), (⟨"ColumnVaultModel$Node", "than", "(LColumnVaultModel$Table;II)I"⟩, 4), (⟨"ColumnVaultModel$Node", "count", "(LColumnVaultModel$Table;)I"⟩, 4), (⟨"ColumnVaultModel$Node", "next", "(LColumnVaultModel$Table;[ZZ)I"⟩, 4), (⟨"ColumnVaultModel", "areColumns", "(IIII)Z"⟩, 16), (⟨"ColumnVaultModel", "areOfOneKind", "(IIII)Z"⟩, 16), (⟨"ColumnVaultModel", "arePartners", "(LColumnVaultModel$Table;IILColumnVaultModel$Table;II)Z"⟩, 16), (⟨"java/util/ArrayList", "rangeCheckForAdd", "(I)V"⟩, 3), (⟨"java/util/ArrayList", "outOfBoundsMsg", "(I)Ljava/lang/String;"⟩, 3)]
theorem lw_r5 : ∀ q ∈ lw_privs_5, lw_okq q := List.forall_mem_cons.mpr ⟨lw_p64, List.forall_mem_cons.mpr ⟨lw_p65, List.forall_mem_cons.mpr ⟨lw_p66, List.forall_mem_cons.mpr ⟨lw_p67, List.forall_mem_cons.mpr ⟨lw_p68, List.forall_mem_cons.mpr ⟨lw_p69, List.forall_mem_cons.mpr ⟨lw_p70, List.forall_mem_cons.mpr ⟨lw_p71, List.forall_mem_cons.mpr ⟨lw_p72, List.forall_mem_cons.mpr ⟨lw_p73, List.forall_mem_cons.mpr ⟨lw_p74, fun _ h => absurd h List.not_mem_nil⟩⟩⟩⟩⟩⟩⟩⟩⟩⟩⟩
def lw_privs : List (MethodName × Nat) := lw_privs_1 ++ (lw_privs_2 ++ (lw_privs_3 ++ (lw_privs_4 ++ (lw_privs_5))))
def lw_tbl : List Cond := k2_sels lw_privs ++ tables_1
theorem lw_privs_ok : ∀ q ∈ lw_privs, lw_okq q := by
  show ∀ q ∈ lw_privs_1 ++ (lw_privs_2 ++ (lw_privs_3 ++ (lw_privs_4 ++ (lw_privs_5)))), lw_okq q
  exact List.forall_mem_append.mpr ⟨lw_r1, List.forall_mem_append.mpr ⟨lw_r2, List.forall_mem_append.mpr ⟨lw_r3, List.forall_mem_append.mpr ⟨lw_r4, lw_r5⟩⟩⟩⟩
/-- the streams that the claim lets the run draw from -/
abbrev lw_cs : List Choice := [Jvm.Choice.named "NaN.bits"]
theorem lw_bits : nanBits ∈ lw_cs := by first | decide | exact List.mem_cons_self | simp [lw_cs, nanBits]
end
section
/-! ===== BEGIN words of one list among another's, by their places ===== -/
theorem goodIn_r {big : List Cond} (ws : List Cond) (ps : List Nat) (hp : ws = ps.filterMap (fun i => big[i]?)) (h : ws.all goodWord = true) : GoodIn big ws := by
  intro w hw
  have h1 := List.all_eq_true.mp h w hw
  rw [hp] at hw
  obtain ⟨i, -, hi⟩ := List.mem_filterMap.mp hw
  have hm : w ∈ big := by first | exact List.mem_of_getElem? hi | exact List.getElem?_mem hi
  exact ⟨hm, good_of_word h1⟩
theorem goodIn_app {big a b : List Cond} (ha : GoodIn big a) (hb : GoodIn big b) : GoodIn big (a ++ b) := fun w h => (List.mem_append.mp h).elim (ha w) (hb w)
theorem goodIn_ca {big a b : List Cond} {c : Cond} (ha : GoodIn big (c :: a)) (hb : GoodIn big b) : GoodIn big (c :: (a ++ b)) := fun w h => (List.mem_cons.mp h).elim (fun e => ha w (List.mem_cons.mpr (Or.inl e))) (fun h => (List.mem_append.mp h).elim (fun h => ha w (List.mem_cons.mpr (Or.inr h))) (hb w))
theorem goodIn_sub {big ws : List Cond} (hm : ∀ w ∈ ws, w ∈ big) (h : ws.all goodWord = true) : GoodIn big ws := fun w hw => ⟨hm w hw, good_of_word (List.all_eq_true.mp h w hw)⟩
/-! ===== END ===== -/
/-! ===== BEGIN exceptions that leave a method, and their catching by the caller (launches without stack traces) ===== -/
section VXA
/-! The laws vx_back, vx_callV, vx_callS, vx_callSW, vx_throw0, vx_throwS follow proofs of the library, with one case more: JvmDerived/Free/Laws.lean (Back.of_free), Shelf42/LK1.lean (callV, callS), Shelf/KitTraced.lean (throwNew0V, throwNewS). -/
/-- where a method has thrown q: the class by its name, the cell, what was written, the world -/
def vx_T (XC : String → State → State → Prop) (st : State) (q : Addr) (t : State) (mc ms : Nat) (free : Addr → Prop) : Prop :=
  ∃ (E : String) (ce : Cell) (L : List Loc), XC E st t ∧ t.heap[q]? = some ce ∧ ce.vm = .none ∧ st.vm.findClass E = some ce.cls ∧ st.WarmedH t.vm ∧ st.sameButNew ({ t with vm := st.vm } : State) L mc ms ∧ ∀ z ∈ L, free z.base
def vx_Q (Qc : Array Value → State → Outcome → State → Prop) (XC : String → State → State → Prop) (mc ms : Nat) (free : Addr → Prop) : Array Value → State → Outcome → State → Prop := fun a st o t =>
  (Qc a st o t ∧ ∃ L, FrameEnd st o t L mc ms ∧ ∀ q ∈ L, free q.base) ∨ ∃ q, o = .threw q ∧ vx_T XC st q t mc ms free
/-- a callee that returns or throws -/
def vx_Met (l : Launch) (y : MethodName) (ws : List Cond) (rm : Room) (Pc : Array Value → State → Prop) (Qc : Array Value → State → Outcome → State → Prop) (XC : String → State → State → Prop) (mc ms : Nat) (free : Addr → Prop) : Prop :=
  MetFree l y (headSpec ws rm) Pc (fun _ _ _ _ _ => True) (vx_Q Qc XC mc ms free)
def vx_Post (XC : String → State → State → Prop) (mc ms : Nat) (free : Addr → Prop) : Pt → Array Value → Addr → Pt → Prop := fun A a q B =>
  ∃ (g : JFrame) (mk : MethodId) (t : State) (L : List Loc) (E : String) (ce : Cell), B.U.heap = t.heap ∧ B.U.vm = t.vm ∧ XC E (A.U.calling g mk a) t ∧ t.heap[q]? = some ce ∧ ce.vm = .none ∧ A.U.vm.findClass E = some ce.cls ∧ B.locs = A.locs ++ L ∧ (∀ z ∈ L, free z.base) ∧ B.cells = A.cells + mc ∧ B.slots = A.slots + ms
def vx_Back (l : Launch) (R : Room) (p : Program) (e : Env) (below : List Frame) (s : State) (sargs : Array Value) (y : MethodName) (len W9 : Nat)
    (Pre : Pt → Array Value → Prop) (Post : Pt → Array Value → Option Value → Pt → Prop) (PostX : Pt → Array Value → Addr → Pt → Prop) : Prop :=
  ∀ (m : MethodId) (meth : Method) (c : Code) (A : Pt) (g : JFrame) (ig : Instr) (mk : MethodId) (a : Array Value),
    Stand p l e R s m sargs below meth c A.U A.locs A.cells A.slots → g.method = m → g.locals.size = c.maxLocals → decode c.code g.pc = .ok (ig, len) →
    2 * g.monitorRoom + (g.stack.map fun v => v.category).sum ≤ W9 → A.U.methodNamed? y = some mk → Pre A a →
    (∃ (v : Option Value) (B : Pt), Stand p l e R s m sargs below meth c B.U B.locs B.cells B.slots ∧ Post A a v B ∧
      Steps p.tables e below (doInvoke e (A.U.setTop g) [] mk a).1 (B.U.setTop { g with pc := g.pc + len, stack := v.toList ++ g.stack })) ∨
    (∃ (q : Addr) (B : Pt), Stand p l e R s m sargs below meth c B.U B.locs B.cells B.slots ∧ PostX A a q B ∧
      Steps p.tables e below (doInvoke e (A.U.setTop g) [] mk a).1 ((B.U.setTop g).pushFrame (.throwing q)))
section Payer
variable {l : Launch} {R : Room} {p : Program} {e : Env} {below : List Frame} {s : State} {sargs : Array Value} {y : MethodName} {len W9 : Nat}
theorem vx_back {ws : List Cond} {rm : Room} {Pc : Array Value → State → Prop} {Qc : Array Value → State → Outcome → State → Prop} {XC : String → State → State → Prop} {mc ms : Nat} {free : Addr → Prop} {bytes : ByteArray} {maxL : Nat} {ret : Option FieldType}
    (hM : vx_Met l y ws rm Pc Qc XC mc ms free) (hblind : FrameBlind Pc) (hrc : rm.cells = mc) (hrs : rm.slots = ms)
    (hframes : rm.frames + 1 ≤ R.frames) (hlocals : W9 + (maxL + 11) + rm.locals ≤ R.locals)
    (hws : ∀ w ∈ ws, ∀ a' U, s.WarmedH U.vm → w.before a' U = true) (hcode : Cond.code y bytes maxL ret ∈ ws) (hinit : ∀ a' U, s.WarmedH U.vm → (Cond.initialized y.cls).before a' U = true) :
    vx_Back l R p e below s sargs y len W9 (PreOf R mc ms Pc) (PostOf Qc mc ms free) (vx_Post XC mc ms free) := by
  intro m meth c A g ig mk a X hg hsize hdg hW hn hp
  have h1 : (headSpec ws rm).pre.before a A.U = true := atoms_intro fun w hw => hws w hw _ _ X.warmed
  have h2 : (Cond.code y bytes maxL ret).before a A.U = true := hws _ hcode _ _ X.warmed
  have h3 : (Cond.initialized y.cls).before a A.U = true := hinit _ _ X.warmed
  have h4 : A.cells + (headSpec ws rm).room.cells ≤ R.cells := by rw [show (headSpec ws rm).room.cells = mc from hrc]; exact hp.1
  have h5 : A.slots + (headSpec ws rm).room.slots ≤ R.slots := by rw [show (headSpec ws rm).room.slots = ms from hrs]; exact hp.2.1
  have hPc : Pc a (A.U.calling g mk a) := hblind _ _ _ _ hp.2.2
  obtain ⟨U, Ls, c0, s0⟩ := A
  dsimp only [Pt.U, Pt.locs, Pt.cells, Pt.slots] at h1 h2 h3 h4 h5 X hn hPc ⊢
  obtain ⟨methY, cY, hmY, hcY, -, hlY, -, -, -, -⟩ := Cond.code_spec hn h2
  obtain ⟨kY, hkY, -⟩ := className_of_methodNamed hn
  have hinitY : kY.init = .initialized := Cond.initialized_spec (findClass_of_methodNamed hn) hkY h3
  have h : At U g.method c below := by rw [hg]; exact X.here
  have hlocals9 : W9 + (maxL + 11) + (headSpec ws rm).room.locals ≤ R.locals := hlocals
  have happ : (headSpec ws rm).appliesLoose y e.platform (U.calling g mk a) = true :=
    Spec.appliesLoose_calling (g := g) h hdg hn hkY hinitY
      (X.room_calling (g := g) (R' := (headSpec ws rm).room) hsize hmY hcY hframes (by rw [hlY]; omega) h4 h5) h1
  obtain ⟨mid, hmid⟩ := h.above
  have hfr : (U.setTop g).frames = (.java g :: mid) ++ below := by rw [State.frames_setTop' g h.top, hmid]; rfl
  obtain ⟨o, s₂, hsteps, -, hend, hq⟩ := Steps.callFree hM p X.admits X.cas X.clock (acts := []) hfr happ hPc trivial
  have hq' : vx_Q Qc XC mc ms free a (U.calling g mk a) o s₂ := hq
  rw [State.frames_setTop' g h.top] at hend
  obtain ⟨g₀, hg0⟩ := Option.isSome_iff_exists.mp h.top
  obtain ⟨r, hr⟩ := State.topJava?_eq_some.mp hg0
  have hr' : (({ U with heap := s₂.heap, slotsUsed := s₂.slotsUsed } : State).setVm s₂.vm).frames = .java g₀ :: r := hr
  rcases hq' with ⟨hqc, L, hfe, hL⟩ | ⟨q, rfl, E, ce, L, hx, hce, hcv, hcl, hW₂, hsm, hL⟩
  · obtain ⟨⟨v, rfl⟩, hW₂, e2, q2, q3, q4, q5, q6⟩ := id hfe
    have e3 : s₂ = ({ (U.calling g mk a).setFrames s₂.frames with heap := s₂.heap, slotsUsed := s₂.slotsUsed } : State).setVm s₂.vm := by
      have : s₂ = ({ s₂ with vm := (U.calling g mk a).vm } : State).setVm s₂.vm := rfl
      rw [e2] at this
      exact this
    obtain ⟨c₂, i₂, len₂, hc₂, hd₂, hf₂⟩ := hend
    have hW' : U.WarmedH s₂.vm := hW₂
    have hcc : c₂ = c := by
      have h1 : s₂.code? g.method = U.code? g.method := by
        rw [State.code?_eq, State.code?_eq, hW'.alike.method?]
      exact Option.some.inj (hc₂.symm.trans (h1.trans h.code))
    subst hcc
    have hlen : len₂ = len := by rw [hdg] at hd₂; cases hd₂; rfl
    subst hlen
    have hs₂ : s₂ = (({ U with heap := s₂.heap, slotsUsed := s₂.slotsUsed } : State).setVm s₂.vm).setTop { g with pc := g.pc + len₂, stack := v.toList ++ g.stack } := by
      refine e3.trans ?_
      rw [hf₂, State.calling_eq h.top, State.setFrames_setFrames, State.setTop_of_frames _ hr', hr]
      rfl
    have hsame : U.sameButNew ({ U with heap := s₂.heap, slotsUsed := s₂.slotsUsed } : State) L mc ms := by
      refine ⟨?_, q2, q3, q4, q5, q6⟩
      obtain ⟨t, ht, -⟩ := State.frames_cons hr
      show ({ U with heap := s₂.heap, slotsUsed := s₂.slotsUsed } : State) = { U.setFrames U.frames with heap := s₂.heap, slotsUsed := s₂.slotsUsed }
      rw [State.setFrames_self ht]
    subst hg
    refine Or.inl ⟨v, ⟨(({ U with heap := s₂.heap, slotsUsed := s₂.slotsUsed } : State).setVm s₂.vm), Ls ++ L, c0 + mc, s0 + ms⟩,
      ⟨X.admits, X.cas, X.clock, X.frames, X.room, X.hears, X.method, X.code, (X.here.setHeapUsed s₂.heap s₂.slotsUsed).setVm hW'.alike, X.tail, State.WarmedH.trans X.warmed hW', X.limits, X.bytes, X.same.trans (hsame.setVm s.vm)⟩,
      ⟨g, mk, s₂, L, rfl, rfl, hqc, rfl, hL, rfl, rfl⟩, ?_⟩
    show Steps p.tables e below _ ((({ U with heap := s₂.heap, slotsUsed := s₂.slotsUsed } : State).setVm s₂.vm).setTop { g with pc := g.pc + len₂, stack := v.toList ++ g.stack })
    rw [← hs₂]
    exact hsteps
  · obtain ⟨e2, q2, q3, q4, q5, q6⟩ := id hsm
    have e3 : s₂ = ({ (U.calling g mk a).setFrames s₂.frames with heap := s₂.heap, slotsUsed := s₂.slotsUsed } : State).setVm s₂.vm := by
      have : s₂ = ({ s₂ with vm := (U.calling g mk a).vm } : State).setVm s₂.vm := rfl
      rw [e2] at this
      exact this
    have hf₂ : s₂.frames = .throwing q :: .java g :: U.frames.tail := hend
    have hW' : U.WarmedH s₂.vm := hW₂
    have hs₂ : s₂ = ((({ U with heap := s₂.heap, slotsUsed := s₂.slotsUsed } : State).setVm s₂.vm).setTop g).pushFrame (.throwing q) := by
      refine e3.trans ?_
      rw [hf₂, State.calling_eq h.top, State.setFrames_setFrames, State.pushFrame, State.frames_setTop _ hr', State.setTop_of_frames _ hr', State.setFrames_setFrames, hr]
      rfl
    have hsame : U.sameButNew ({ U with heap := s₂.heap, slotsUsed := s₂.slotsUsed } : State) L mc ms := by
      refine ⟨?_, q2, q3, q4, q5, q6⟩
      obtain ⟨t, ht, -⟩ := State.frames_cons hr
      show ({ U with heap := s₂.heap, slotsUsed := s₂.slotsUsed } : State) = { U.setFrames U.frames with heap := s₂.heap, slotsUsed := s₂.slotsUsed }
      rw [State.setFrames_self ht]
    subst hg
    refine Or.inr ⟨q, ⟨(({ U with heap := s₂.heap, slotsUsed := s₂.slotsUsed } : State).setVm s₂.vm), Ls ++ L, c0 + mc, s0 + ms⟩,
      ⟨X.admits, X.cas, X.clock, X.frames, X.room, X.hears, X.method, X.code, (X.here.setHeapUsed s₂.heap s₂.slotsUsed).setVm hW'.alike, X.tail, State.WarmedH.trans X.warmed hW', X.limits, X.bytes, X.same.trans (hsame.setVm s.vm)⟩,
      ⟨g, mk, s₂, L, E, ce, rfl, rfl, hx, hce, hcv, hcl, rfl, hL, rfl, rfl⟩, ?_⟩
    show Steps p.tables e below _ (((({ U with heap := s₂.heap, slotsUsed := s₂.slotsUsed } : State).setVm s₂.vm).setTop g).pushFrame (.throwing q))
    rw [← hs₂]
    exact hsteps
end Payer
section Calls
variable {p : Program} {l : Launch} {e : Env} {R : Room} {s : State} {m : MethodId} {args : Array Value} {below : List Frame} {meth : Method} {c : Code} {T : State} {locs : List Loc} {cells slots : Nat}
theorem vx_callV (X : Stand p l e R s m args below meth c T locs cells slots) (hexec : p.tables.exec = Jvm.exec) {own C : String} {index : Nat} {y : MethodName} {bytes : ByteArray} {maxL : Nat} {ret : Option FieldType}
    (hown : s.vm.findClass own = some m.cls) (hlink : (Cond.methodLink own index y).before args s = true) (hinst : (Cond.instanceMethod y).before args s = true) (hsel : (Cond.selects C y y).before args s = true)
    (hcode : (Cond.code y bytes maxL ret).before args s = true) (hy : y.cls ≠ "java/lang/invoke/MethodHandle" ∧ y.cls ≠ "java/lang/invoke/VarHandle")
    {W9 : Nat} {Pre : Pt → Array Value → Prop} {Post : Pt → Array Value → Option Value → Pt → Prop} {PostX : Pt → Array Value → Addr → Pt → Prop} (hK : vx_Back l R p e below s args y 3 W9 Pre Post PostX)
    {b : Addr} {cellB : Cell} (hcell : T.heap[b]? = some cellB) (hobj : cellB.vm.isStatics = false) (hcls : s.vm.findClass C = some cellB.cls)
    {g : JFrame} (hg : g.method = m) (hsize : g.locals.size = c.maxLocals) {argsL rest : List Value} (hlen : ∀ sig, parseMethodDescriptor y.desc = some sig → argsL.length = sig.parameters.length)
    (hstack : g.stack = argsL.reverse ++ .ref b :: rest) (hW : 2 * g.monitorRoom + (rest.map fun v => v.category).sum ≤ W9) (hdg : decode c.code g.pc = .ok (.invokevirtual index, 3))
    (hpre : ∀ vm₁, s.WarmedH vm₁ → Pre ⟨T.setVm vm₁, locs, cells, slots⟩ (Value.ref b :: argsL).toArray) :
    (∃ (v : Option Value) (vm₁ : Vm) (B : Pt), s.WarmedH vm₁ ∧ Stand p l e R s m args below meth c B.U B.locs B.cells B.slots ∧ Post ⟨T.setVm vm₁, locs, cells, slots⟩ (Value.ref b :: argsL).toArray v B ∧
      ∀ target, Steps p.tables e below (B.U.setTop { g with pc := g.pc + 3, stack := v.toList ++ rest }) target → Steps p.tables e below (T.setTop g) target) ∨
    (∃ (q : Addr) (vm₁ : Vm) (B : Pt), s.WarmedH vm₁ ∧ Stand p l e R s m args below meth c B.U B.locs B.cells B.slots ∧ PostX ⟨T.setVm vm₁, locs, cells, slots⟩ (Value.ref b :: argsL).toArray q B ∧
      Steps p.tables e below (T.setTop g) ((B.U.setTop { g with stack := rest }).pushFrame (.throwing q))) := by
  obtain ⟨mk, methM, hnamed, hmethM, hstM, habM⟩ := Cond.instanceMethod_spec hinst
  obtain ⟨methM', cM, hmethM', -, -, -, -, -, -, hsigM⟩ := Cond.code_spec hnamed hcode
  cases hmethM.symm.trans hmethM'
  obtain ⟨c2, r2, m2, q1, q2, q3, q4, kP, hkP, hkPi⟩ := Cond.selects_spec hsel
  cases hcls.symm.trans q1
  cases (State.methodFound?_of_named hnamed hy).symm.trans q2
  cases hnamed.symm.trans q3
  have hselP : selectMethod e.platform s.vm cellB.cls mk = .method mk := by rw [Launch.admits_selectMethod X.admits]; exact q4
  obtain ⟨vm₁, X₁, hstep₁⟩ := X.invokevirtual hexec hown hlink hnamed hmethM hstM hkP hkPi hy (a := b) (cell := cellB) hcell
    (fun z h => by rw [h] at hobj; cases hobj) hselP hmethM habM hkP hkPi (g := g) hg (argsL := argsL) (rest := rest) (hlen _ hsigM) hstack hdg
  rcases hK m meth c ⟨T.setVm vm₁, locs, cells, slots⟩ { g with stack := rest } (.invokevirtual index) mk (Value.ref b :: argsL).toArray X₁ hg hsize hdg hW (X₁.named hnamed) (hpre vm₁ X₁.warmed) with ⟨v, B, X', hpost, hsteps⟩ | ⟨q, B, X', hpost, hsteps⟩
  · exact Or.inl ⟨v, vm₁, B, X₁.warmed, X', hpost, fun target h => hstep₁ _ fun acts => by rw [doInvoke_state]; exact hsteps.trans h⟩
  · exact Or.inr ⟨q, vm₁, B, X₁.warmed, X', hpost, hstep₁ _ fun acts => by rw [doInvoke_state]; exact hsteps⟩
theorem vx_callS (X : Stand p l e R s m args below meth c T locs cells slots) (hexec : p.tables.exec = Jvm.exec) {own : String} {index : Nat} {y : MethodName} {bytes : ByteArray} {maxL : Nat} {ret : Option FieldType}
    (hown : s.vm.findClass own = some m.cls) (hlink : (Cond.methodLink own index y).before args s = true) (hstat : (Cond.static y).before args s = true) (hinit : (Cond.initialized y.cls).before args s = true)
    (hcode : (Cond.code y bytes maxL ret).before args s = true) (hy : y.cls ≠ "java/lang/invoke/MethodHandle" ∧ y.cls ≠ "java/lang/invoke/VarHandle")
    {W9 : Nat} {Pre : Pt → Array Value → Prop} {Post : Pt → Array Value → Option Value → Pt → Prop} {PostX : Pt → Array Value → Addr → Pt → Prop} (hK : vx_Back l R p e below s args y 3 W9 Pre Post PostX)
    {g : JFrame} (hg : g.method = m) (hsize : g.locals.size = c.maxLocals) {argsL rest : List Value} (hlen : ∀ sig, parseMethodDescriptor y.desc = some sig → argsL.length = sig.parameters.length)
    (hstack : g.stack = argsL.reverse ++ rest) (hW : 2 * g.monitorRoom + (rest.map fun v => v.category).sum ≤ W9) (hdg : decode c.code g.pc = .ok (.invokestatic index, 3))
    (hpre : ∀ vm₁, s.WarmedH vm₁ → Pre ⟨T.setVm vm₁, locs, cells, slots⟩ argsL.toArray) :
    (∃ (v : Option Value) (vm₁ : Vm) (B : Pt), s.WarmedH vm₁ ∧ Stand p l e R s m args below meth c B.U B.locs B.cells B.slots ∧ Post ⟨T.setVm vm₁, locs, cells, slots⟩ argsL.toArray v B ∧
      ∀ target, Steps p.tables e below (B.U.setTop { g with pc := g.pc + 3, stack := v.toList ++ rest }) target → Steps p.tables e below (T.setTop g) target) ∨
    (∃ (q : Addr) (vm₁ : Vm) (B : Pt), s.WarmedH vm₁ ∧ Stand p l e R s m args below meth c B.U B.locs B.cells B.slots ∧ PostX ⟨T.setVm vm₁, locs, cells, slots⟩ argsL.toArray q B ∧
      Steps p.tables e below (T.setTop g) ((B.U.setTop { g with stack := rest }).pushFrame (.throwing q))) := by
  obtain ⟨mk, hnamed⟩ := Cond.code_named hcode
  obtain ⟨methM, cM, hmethM, -, -, -, -, -, -, hsigM⟩ := Cond.code_spec hnamed hcode
  have hstatic : methM.isStatic = true := Cond.static_spec hnamed hmethM hstat
  obtain ⟨kP, hkP, -⟩ := className_of_methodNamed hnamed
  have hinitP : kP.init = .initialized := Cond.initialized_spec (findClass_of_methodNamed hnamed) hkP hinit
  obtain ⟨vm₁, X₁, hstep₁⟩ := X.invokestatic hexec hown hlink hnamed hmethM hstatic hkP hinitP hy (g := g) hg (argsL := argsL) (rest := rest) (hlen _ hsigM) hstack hdg
  rcases hK m meth c ⟨T.setVm vm₁, locs, cells, slots⟩ { g with stack := rest } (.invokestatic index) mk argsL.toArray X₁ hg hsize hdg hW (X₁.named hnamed) (hpre vm₁ X₁.warmed) with ⟨v, B, X', hpost, hsteps⟩ | ⟨q, B, X', hpost, hsteps⟩
  · exact Or.inl ⟨v, vm₁, B, X₁.warmed, X', hpost, fun target h => hstep₁ _ fun acts => by rw [doInvoke_state]; exact hsteps.trans h⟩
  · exact Or.inr ⟨q, vm₁, B, X₁.warmed, X', hpost, hstep₁ _ fun acts => by rw [doInvoke_state]; exact hsteps⟩
end Calls
theorem vx_cls {s : State} {T : State} {vm₁ : Vm} {E : String} {k : ClassId} (hW : s.WarmedH vm₁) (h : (T.setVm vm₁).vm.findClass E = some k) : s.vm.findClass E = some k := by
  have h1 : vm₁.findClass E = some k := h
  rw [hW.alike.findClass] at h1
  exact h1
/-- the method's frame g, with q thrown over it -/
def vx_W (p : Program) (l : Launch) (e : Env) (R : Room) (s : State) (m : MethodId) (args : Array Value) (below : List Frame) (meth : Method) (c : Code) (H : Heap) (locs : List Loc) (cells slots : Nat) (Q : State → Prop) (g : JFrame) (q : Addr) : Prop :=
  ∀ T : State, T.heap = H → Stand p l e R s m args below meth c T locs cells slots → ∃ t, Steps p.tables e below ((T.setTop g).pushFrame (.throwing q)) t ∧ Q t
def vx_Run (p : Program) (l : Launch) (e : Env) (R : Room) (s : State) (m : MethodId) (args : Array Value) (below : List Frame) (meth : Method) (c : Code) (H : Heap) (locs : List Loc) (cells slots mc ms : Nat) (g : JFrame) (rest : List Value) (Qa : State → Outcome → State → Prop) (XC : String → State → State → Prop) (free : Addr → Prop) : Prop :=
  ∀ T : State, T.heap = H → Stand p l e R s m args below meth c T locs cells slots →
    (∃ (v : Option Value) (st₀ t T' : State) (L : List Loc), st₀.heap = H ∧ Stand p l e R s m args below meth c T' (locs ++ L) (cells + mc) (slots + ms) ∧ (∀ q ∈ L, free q.base) ∧ T'.heap = t.heap ∧ T'.vm = t.vm ∧ Qa st₀ (.returned v) t ∧
      Goes p e below T g T' { g with pc := g.pc + 3, stack := v.toList ++ rest }) ∨
    (∃ (q : Addr) (st₀ t T' : State) (L : List Loc) (E : String) (ce : Cell), st₀.heap = H ∧ Stand p l e R s m args below meth c T' (locs ++ L) (cells + mc) (slots + ms) ∧ (∀ z ∈ L, free z.base) ∧ T'.heap = t.heap ∧ T'.vm = t.vm ∧ XC E st₀ t ∧ t.heap[q]? = some ce ∧ ce.vm = .none ∧ s.vm.findClass E = some ce.cls ∧
      Steps p.tables e below (T.setTop g) ((T'.setTop { g with stack := rest }).pushFrame (.throwing q)))
def vx_X {S : Type} (px : S → Prop) (B : String → S → State → Prop) (A : Nat → Prop) : String → State → State → Prop := fun E st t => ∃ u : S, px u ∧ B E u t ∧ va_F A st t
section Runs
variable {p : Program} {l : Launch} {e : Env} {R : Room} {s : State} {m : MethodId} {args : Array Value} {below : List Frame} {meth : Method} {c : Code} {H : Heap} {locs : List Loc} {cells slots : Nat}
variable {y : MethodName} {bytes cc : ByteArray} {maxL nL mc ms n index : Nat} {ret : Option FieldType} {ws : List Cond} {rm : Room} {Pc : Array Value → State → Prop} {Qc : Array Value → State → Outcome → State → Prop} {XC : String → State → State → Prop} {free : Addr → Prop} {Ts : List Cond} {own C : String} {b : Addr} {As rest : List Value} {g : JFrame}
theorem vx_callBack (cb : CallB R s args own index y bytes maxL ret ws rm mc ms n) (hM : vx_Met l y ws rm Pc Qc XC mc ms free) (hbl : FrameBlind Pc) : vx_Back l R p e below s args y 3 8 (PreOf R mc ms Pc) (PostOf Qc mc ms free) (vx_Post XC mc ms free) := by
  obtain ⟨hrc, hrs, hfr, hlo, hws, hcw, -, hini, -⟩ := cb
  exact vx_back (bytes := bytes) (maxL := maxL) (ret := ret) hM hbl hrc hrs hfr hlo hws hcw (fun a' U hW => word_at hW (Or.inl (by first | rfl | simp [Cond.onTables, Cond.keeps, Cond.steady])) hini)
theorem vx_runV (S : CallFix p m c cc nL s args Ts own) (hM : vx_Met l y ws rm Pc Qc XC mc ms free) (cw : CallW R s args own C index y bytes maxL ret ws rm mc ms n) (hp : PreV s H C b Pc As)
    (hg : g.method = m) (hn : As.length = n) (hsize : g.locals.size = nL) (hstack : g.stack = As.reverse ++ .ref b :: rest) (hW : 2 * g.monitorRoom + (rest.map fun v => v.category).sum ≤ 8) (hdg : decode cc g.pc = .ok (.invokevirtual index, 3)) (hf : cells + mc ≤ R.cells ∧ slots + ms ≤ R.slots) :
    vx_Run p l e R s m args below meth c H locs cells slots mc ms g rest (Qc (Value.ref b :: As).toArray) XC free := by
  have hK : vx_Back l R p e below s args y 3 8 (PreOf R mc ms Pc) (PostOf Qc mc ms free) (vx_Post XC mc ms free) := vx_callBack cw.1 hM hp.1
  obtain ⟨⟨-, -, -, -, -, -, hcode, -, hy, hlen, hl⟩, hin, hse⟩ := cw
  obtain ⟨hx, hb, hml, ho, -⟩ := S
  obtain ⟨-, ⟨cellB, hcB, hoB, hclB⟩, hPc⟩ := hp
  intro T hT X
  rcases vx_callV X hx (C := C) (bytes := bytes) (maxL := maxL) (ret := ret) ho hl hin hse hcode hy hK (by rw [hT]; exact hcB) hoB hclB hg (hsize.trans hml.symm) (argsL := As) (rest := rest) (fun sig h => hn.trans (hlen sig h)) hstack hW (by rw [hb]; exact hdg)
    (fun vm₁ hW₁ => ⟨hf.1, hf.2, hPc (T.setVm vm₁) hT hW₁⟩) with ⟨v, vm₁, ⟨U', l2, c2, s2⟩, hW₁, X', ⟨g', mk, t, L, e1, e2, hq, h1, hL, h2, h3⟩, st⟩ | ⟨q, vm₁, ⟨U', l2, c2, s2⟩, hW₁, X', ⟨g', mk, t, L, E, ce, e1, e2, hq, hce, hcv, hcl, h1, hL, h2, h3⟩, st⟩
  · dsimp only [Pt.U, Pt.locs, Pt.cells, Pt.slots] at X' e1 e2 h1 h2 h3 st
    subst h1; subst h2; subst h3
    exact Or.inl ⟨v, (T.setVm vm₁).calling g' mk (Value.ref b :: As).toArray, t, U', L, hT, X', hL, e1, e2, hq, st⟩
  · dsimp only [Pt.U, Pt.locs, Pt.cells, Pt.slots] at X' e1 e2 h1 h2 h3 st hcl
    subst h1; subst h2; subst h3
    exact Or.inr ⟨q, (T.setVm vm₁).calling g' mk (Value.ref b :: As).toArray, t, U', L, E, ce, hT, X', hL, e1, e2, hq, hce, hcv, vx_cls hW₁ hcl, st⟩
theorem vx_runS (S : CallFix p m c cc nL s args Ts own) (hM : vx_Met l y ws rm Pc Qc XC mc ms free) (cw : CallB R s args own index y bytes maxL ret ws rm mc ms n ∧ (Cond.static y).before args s = true) (hp : PreS s H Pc As)
    (hg : g.method = m) (hn : As.length = n) (hsize : g.locals.size = nL) (hstack : g.stack = As.reverse ++ rest) (hW : 2 * g.monitorRoom + (rest.map fun v => v.category).sum ≤ 8) (hdg : decode cc g.pc = .ok (.invokestatic index, 3)) (hf : cells + mc ≤ R.cells ∧ slots + ms ≤ R.slots) :
    vx_Run p l e R s m args below meth c H locs cells slots mc ms g rest (Qc As.toArray) XC free := by
  have hK : vx_Back l R p e below s args y 3 8 (PreOf R mc ms Pc) (PostOf Qc mc ms free) (vx_Post XC mc ms free) := vx_callBack cw.1 hM hp.1
  obtain ⟨⟨-, -, -, -, -, -, hcode, hini, hy, hlen, hl⟩, hstt⟩ := cw
  obtain ⟨hx, hb, hml, ho, -⟩ := S
  intro T hT X
  rcases vx_callS X hx (bytes := bytes) (maxL := maxL) (ret := ret) ho hl hstt hini hcode hy hK hg (hsize.trans hml.symm) (argsL := As) (rest := rest) (fun sig h => hn.trans (hlen sig h)) hstack hW (by rw [hb]; exact hdg)
    (fun vm₁ hW₁ => ⟨hf.1, hf.2, hp.2 (T.setVm vm₁) hT hW₁⟩) with ⟨v, vm₁, ⟨U', l2, c2, s2⟩, hW₁, X', ⟨g', mk, t, L, e1, e2, hq, h1, hL, h2, h3⟩, st⟩ | ⟨q, vm₁, ⟨U', l2, c2, s2⟩, hW₁, X', ⟨g', mk, t, L, E, ce, e1, e2, hq, hce, hcv, hcl, h1, hL, h2, h3⟩, st⟩
  · dsimp only [Pt.U, Pt.locs, Pt.cells, Pt.slots] at X' e1 e2 h1 h2 h3 st
    subst h1; subst h2; subst h3
    exact Or.inl ⟨v, (T.setVm vm₁).calling g' mk As.toArray, t, U', L, hT, X', hL, e1, e2, hq, st⟩
  · dsimp only [Pt.U, Pt.locs, Pt.cells, Pt.slots] at X' e1 e2 h1 h2 h3 st hcl
    subst h1; subst h2; subst h3
    exact Or.inr ⟨q, (T.setVm vm₁).calling g' mk As.toArray, t, U', L, E, ce, hT, X', hL, e1, e2, hq, hce, hcv, vx_cls hW₁ hcl, st⟩
end Runs
section Rows
variable {p : Program} {l : Launch} {e : Env} {R : Room} {s : State} {m : MethodId} {args : Array Value} {below : List Frame} {meth : Method} {c : Code} {H : Heap} {locs : List Loc} {cells slots : Nat} {Q : State → Prop}
variable {mc ms : Nat} {free : Addr → Prop} {A0 A1 : Nat → Prop} {H0 : Heap} {a : Array Value} {pc : Nat} {ls : Array Slot} {st0 rest : List Value}
theorem vx_keep {st₀ t T' : State} {L : List Loc} (h0 : st₀.heap = H) (e1 : T'.heap = t.heap) (hS : va_S A0 H0 H locs) (hA : ∀ q, q < H.size → A1 q → A0 q) (hf : ∀ q, free q → A0 q) (hL : ∀ q ∈ L, free q.base) (hF : va_F A1 st₀ t) :
    H.size ≤ T'.heap.size ∧ (∀ q : Nat, q < H.size → ¬ A1 q → T'.heap[q]? = H[q]?) ∧ va_S A0 H0 T'.heap (locs ++ L) := by
  obtain ⟨hz, hk⟩ := hF
  rw [h0] at hz hk
  exact ⟨by rw [e1]; exact hz, fun q h1 h2 => by rw [e1]; exact hk q h1 h2,
    ⟨Nat.le_trans hS.1 (by rw [e1]; exact hz), fun q h1 h2 => by rw [e1, hk q (Nat.lt_of_lt_of_le h1 hS.1) (fun z => h2 (hA q (Nat.lt_of_lt_of_le h1 hS.1) z))]; exact hS.2.1 q h1 h2, fun q hq => by
      rcases List.mem_append.mp hq with h | h
      · exact hS.2.2 q h
      · exact hf _ (hL q h)⟩⟩
theorem vx_calli {S SX : Type} {post : Int32 → S → Prop} {px : SX → Prop} {B : S → State → Prop} {BX : String → SX → State → Prop} {AX : Nat → Prop} (hr : vx_Run p l e R s m args below meth c H locs cells slots mc ms (F0 m pc ls st0) rest (va_Qi post B A1 a) (vx_X px BX AX) free) (hS : va_S A0 H0 H locs) (hA : ∀ q, q < H.size → A1 q → A0 q) (hf : ∀ q, free q → A0 q) (hAX : ∀ q, q < H.size → AX q → A0 q)
    (kx : ∀ (E : String) (ce : Cell) (q9 : Addr) (u : SX) (t : State) (H1 : Heap) (locs1 : List Loc), t.heap = H1 → s.vm.Alike t.vm → px u → BX E u t → H.size ≤ H1.size → (∀ q : Nat, q < H.size → ¬ AX q → H1[q]? = H[q]?) → va_S A0 H0 H1 locs1 → H1[q9]? = some ce → ce.vm = .none → s.vm.findClass E = some ce.cls → vx_W p l e R s m args below meth c H1 locs1 (cells + mc) (slots + ms) Q (F0 m pc ls rest) q9)
    (kk : ∀ (r : Int32) (u : S) (t : State) (H1 : Heap) (locs1 : List Loc), t.heap = H1 → s.vm.Alike t.vm → post r u → B u t → H.size ≤ H1.size → (∀ q : Nat, q < H.size → ¬ A1 q → H1[q]? = H[q]?) → va_S A0 H0 H1 locs1 → W p l e R s m args below meth c H1 locs1 (cells + mc) (slots + ms) Q (F0 m (pc + 3) ls (.int r :: rest))) : W p l e R s m args below meth c H locs cells slots Q (F0 m pc ls st0) := by
  intro T hT X
  rcases hr T hT X with ⟨v, st₀, t, T', L, h0, X', hL, e1, e2, ⟨⟨r, u, hv, hp, hb⟩, hF⟩, st⟩ | ⟨q, st₀, t, T', L, E, ce, h0, X', hL, e1, e2, ⟨u, hp, hb, hF⟩, hce, hcv, hcl, st⟩
  · cases hv
    obtain ⟨k1, k2, k3⟩ := vx_keep h0 e1 hS hA hf hL hF
    obtain ⟨t2, a1, b1⟩ := kk r u t T'.heap (locs ++ L) e1.symm (by rw [← e2]; exact X'.warmed.alike) hp hb k1 k2 k3 T' rfl X'
    exact ⟨t2, st t2 a1, b1⟩
  · obtain ⟨k1, k2, k3⟩ := vx_keep h0 e1 hS hAX hf hL hF
    obtain ⟨t2, a1, b1⟩ := kx E ce q u t T'.heap (locs ++ L) e1.symm (by rw [← e2]; exact X'.warmed.alike) hp hb k1 k2 k3 (by rw [e1]; exact hce) hcv hcl T' rfl X'
    exact ⟨t2, st.trans a1, b1⟩
theorem vx_calll {S SX : Type} {post : Int64 → S → Prop} {px : SX → Prop} {B : S → State → Prop} {BX : String → SX → State → Prop} {AX : Nat → Prop} (hr : vx_Run p l e R s m args below meth c H locs cells slots mc ms (F0 m pc ls st0) rest (va_Ql post B A1 a) (vx_X px BX AX) free) (hS : va_S A0 H0 H locs) (hA : ∀ q, q < H.size → A1 q → A0 q) (hf : ∀ q, free q → A0 q) (hAX : ∀ q, q < H.size → AX q → A0 q)
    (kx : ∀ (E : String) (ce : Cell) (q9 : Addr) (u : SX) (t : State) (H1 : Heap) (locs1 : List Loc), t.heap = H1 → s.vm.Alike t.vm → px u → BX E u t → H.size ≤ H1.size → (∀ q : Nat, q < H.size → ¬ AX q → H1[q]? = H[q]?) → va_S A0 H0 H1 locs1 → H1[q9]? = some ce → ce.vm = .none → s.vm.findClass E = some ce.cls → vx_W p l e R s m args below meth c H1 locs1 (cells + mc) (slots + ms) Q (F0 m pc ls rest) q9)
    (kk : ∀ (r : Int64) (u : S) (t : State) (H1 : Heap) (locs1 : List Loc), t.heap = H1 → s.vm.Alike t.vm → post r u → B u t → H.size ≤ H1.size → (∀ q : Nat, q < H.size → ¬ A1 q → H1[q]? = H[q]?) → va_S A0 H0 H1 locs1 → W p l e R s m args below meth c H1 locs1 (cells + mc) (slots + ms) Q (F0 m (pc + 3) ls (.long r :: rest))) : W p l e R s m args below meth c H locs cells slots Q (F0 m pc ls st0) := by
  intro T hT X
  rcases hr T hT X with ⟨v, st₀, t, T', L, h0, X', hL, e1, e2, ⟨⟨r, u, hv, hp, hb⟩, hF⟩, st⟩ | ⟨q, st₀, t, T', L, E, ce, h0, X', hL, e1, e2, ⟨u, hp, hb, hF⟩, hce, hcv, hcl, st⟩
  · cases hv
    obtain ⟨k1, k2, k3⟩ := vx_keep h0 e1 hS hA hf hL hF
    obtain ⟨t2, a1, b1⟩ := kk r u t T'.heap (locs ++ L) e1.symm (by rw [← e2]; exact X'.warmed.alike) hp hb k1 k2 k3 T' rfl X'
    exact ⟨t2, st t2 a1, b1⟩
  · obtain ⟨k1, k2, k3⟩ := vx_keep h0 e1 hS hAX hf hL hF
    obtain ⟨t2, a1, b1⟩ := kx E ce q u t T'.heap (locs ++ L) e1.symm (by rw [← e2]; exact X'.warmed.alike) hp hb k1 k2 k3 (by rw [e1]; exact hce) hcv hcl T' rfl X'
    exact ⟨t2, st.trans a1, b1⟩
theorem vx_callf {S SX : Type} {post : UInt32 → S → Prop} {px : SX → Prop} {B : S → State → Prop} {BX : String → SX → State → Prop} {AX : Nat → Prop} (hr : vx_Run p l e R s m args below meth c H locs cells slots mc ms (F0 m pc ls st0) rest (va_Qf post B A1 a) (vx_X px BX AX) free) (hS : va_S A0 H0 H locs) (hA : ∀ q, q < H.size → A1 q → A0 q) (hf : ∀ q, free q → A0 q) (hAX : ∀ q, q < H.size → AX q → A0 q)
    (kx : ∀ (E : String) (ce : Cell) (q9 : Addr) (u : SX) (t : State) (H1 : Heap) (locs1 : List Loc), t.heap = H1 → s.vm.Alike t.vm → px u → BX E u t → H.size ≤ H1.size → (∀ q : Nat, q < H.size → ¬ AX q → H1[q]? = H[q]?) → va_S A0 H0 H1 locs1 → H1[q9]? = some ce → ce.vm = .none → s.vm.findClass E = some ce.cls → vx_W p l e R s m args below meth c H1 locs1 (cells + mc) (slots + ms) Q (F0 m pc ls rest) q9)
    (kk : ∀ (r : UInt32) (u : S) (t : State) (H1 : Heap) (locs1 : List Loc), t.heap = H1 → s.vm.Alike t.vm → post r u → B u t → H.size ≤ H1.size → (∀ q : Nat, q < H.size → ¬ A1 q → H1[q]? = H[q]?) → va_S A0 H0 H1 locs1 → W p l e R s m args below meth c H1 locs1 (cells + mc) (slots + ms) Q (F0 m (pc + 3) ls (.float r :: rest))) : W p l e R s m args below meth c H locs cells slots Q (F0 m pc ls st0) := by
  intro T hT X
  rcases hr T hT X with ⟨v, st₀, t, T', L, h0, X', hL, e1, e2, ⟨⟨r, u, hv, hp, hb⟩, hF⟩, st⟩ | ⟨q, st₀, t, T', L, E, ce, h0, X', hL, e1, e2, ⟨u, hp, hb, hF⟩, hce, hcv, hcl, st⟩
  · cases hv
    obtain ⟨k1, k2, k3⟩ := vx_keep h0 e1 hS hA hf hL hF
    obtain ⟨t2, a1, b1⟩ := kk r u t T'.heap (locs ++ L) e1.symm (by rw [← e2]; exact X'.warmed.alike) hp hb k1 k2 k3 T' rfl X'
    exact ⟨t2, st t2 a1, b1⟩
  · obtain ⟨k1, k2, k3⟩ := vx_keep h0 e1 hS hAX hf hL hF
    obtain ⟨t2, a1, b1⟩ := kx E ce q u t T'.heap (locs ++ L) e1.symm (by rw [← e2]; exact X'.warmed.alike) hp hb k1 k2 k3 (by rw [e1]; exact hce) hcv hcl T' rfl X'
    exact ⟨t2, st.trans a1, b1⟩
theorem vx_calld {S SX : Type} {post : UInt64 → S → Prop} {px : SX → Prop} {B : S → State → Prop} {BX : String → SX → State → Prop} {AX : Nat → Prop} (hr : vx_Run p l e R s m args below meth c H locs cells slots mc ms (F0 m pc ls st0) rest (va_Qd post B A1 a) (vx_X px BX AX) free) (hS : va_S A0 H0 H locs) (hA : ∀ q, q < H.size → A1 q → A0 q) (hf : ∀ q, free q → A0 q) (hAX : ∀ q, q < H.size → AX q → A0 q)
    (kx : ∀ (E : String) (ce : Cell) (q9 : Addr) (u : SX) (t : State) (H1 : Heap) (locs1 : List Loc), t.heap = H1 → s.vm.Alike t.vm → px u → BX E u t → H.size ≤ H1.size → (∀ q : Nat, q < H.size → ¬ AX q → H1[q]? = H[q]?) → va_S A0 H0 H1 locs1 → H1[q9]? = some ce → ce.vm = .none → s.vm.findClass E = some ce.cls → vx_W p l e R s m args below meth c H1 locs1 (cells + mc) (slots + ms) Q (F0 m pc ls rest) q9)
    (kk : ∀ (r : UInt64) (u : S) (t : State) (H1 : Heap) (locs1 : List Loc), t.heap = H1 → s.vm.Alike t.vm → post r u → B u t → H.size ≤ H1.size → (∀ q : Nat, q < H.size → ¬ A1 q → H1[q]? = H[q]?) → va_S A0 H0 H1 locs1 → W p l e R s m args below meth c H1 locs1 (cells + mc) (slots + ms) Q (F0 m (pc + 3) ls (.double r :: rest))) : W p l e R s m args below meth c H locs cells slots Q (F0 m pc ls st0) := by
  intro T hT X
  rcases hr T hT X with ⟨v, st₀, t, T', L, h0, X', hL, e1, e2, ⟨⟨r, u, hv, hp, hb⟩, hF⟩, st⟩ | ⟨q, st₀, t, T', L, E, ce, h0, X', hL, e1, e2, ⟨u, hp, hb, hF⟩, hce, hcv, hcl, st⟩
  · cases hv
    obtain ⟨k1, k2, k3⟩ := vx_keep h0 e1 hS hA hf hL hF
    obtain ⟨t2, a1, b1⟩ := kk r u t T'.heap (locs ++ L) e1.symm (by rw [← e2]; exact X'.warmed.alike) hp hb k1 k2 k3 T' rfl X'
    exact ⟨t2, st t2 a1, b1⟩
  · obtain ⟨k1, k2, k3⟩ := vx_keep h0 e1 hS hAX hf hL hF
    obtain ⟨t2, a1, b1⟩ := kx E ce q u t T'.heap (locs ++ L) e1.symm (by rw [← e2]; exact X'.warmed.alike) hp hb k1 k2 k3 (by rw [e1]; exact hce) hcv hcl T' rfl X'
    exact ⟨t2, st.trans a1, b1⟩
theorem vx_callv {S SX : Type} {post : S → Prop} {px : SX → Prop} {B : S → State → Prop} {BX : String → SX → State → Prop} {AX : Nat → Prop} (hr : vx_Run p l e R s m args below meth c H locs cells slots mc ms (F0 m pc ls st0) rest (va_Qv post B A1 a) (vx_X px BX AX) free) (hS : va_S A0 H0 H locs) (hA : ∀ q, q < H.size → A1 q → A0 q) (hf : ∀ q, free q → A0 q) (hAX : ∀ q, q < H.size → AX q → A0 q)
    (kx : ∀ (E : String) (ce : Cell) (q9 : Addr) (u : SX) (t : State) (H1 : Heap) (locs1 : List Loc), t.heap = H1 → s.vm.Alike t.vm → px u → BX E u t → H.size ≤ H1.size → (∀ q : Nat, q < H.size → ¬ AX q → H1[q]? = H[q]?) → va_S A0 H0 H1 locs1 → H1[q9]? = some ce → ce.vm = .none → s.vm.findClass E = some ce.cls → vx_W p l e R s m args below meth c H1 locs1 (cells + mc) (slots + ms) Q (F0 m pc ls rest) q9)
    (kk : ∀ (u : S) (t : State) (H1 : Heap) (locs1 : List Loc), t.heap = H1 → s.vm.Alike t.vm → post u → B u t → H.size ≤ H1.size → (∀ q : Nat, q < H.size → ¬ A1 q → H1[q]? = H[q]?) → va_S A0 H0 H1 locs1 → W p l e R s m args below meth c H1 locs1 (cells + mc) (slots + ms) Q (F0 m (pc + 3) ls (rest))) : W p l e R s m args below meth c H locs cells slots Q (F0 m pc ls st0) := by
  intro T hT X
  rcases hr T hT X with ⟨v, st₀, t, T', L, h0, X', hL, e1, e2, ⟨⟨u, hv, hp, hb⟩, hF⟩, st⟩ | ⟨q, st₀, t, T', L, E, ce, h0, X', hL, e1, e2, ⟨u, hp, hb, hF⟩, hce, hcv, hcl, st⟩
  · cases hv
    obtain ⟨k1, k2, k3⟩ := vx_keep h0 e1 hS hA hf hL hF
    obtain ⟨t2, a1, b1⟩ := kk u t T'.heap (locs ++ L) e1.symm (by rw [← e2]; exact X'.warmed.alike) hp hb k1 k2 k3 T' rfl X'
    exact ⟨t2, st t2 a1, b1⟩
  · obtain ⟨k1, k2, k3⟩ := vx_keep h0 e1 hS hAX hf hL hF
    obtain ⟨t2, a1, b1⟩ := kx E ce q u t T'.heap (locs ++ L) e1.symm (by rw [← e2]; exact X'.warmed.alike) hp hb k1 k2 k3 (by rw [e1]; exact hce) hcv hcl T' rfl X'
    exact ⟨t2, st.trans a1, b1⟩
/-- caught by the row x of this method's table; the rows ahead don't take it -/
theorem vx_catch {own name : String} {E : String} {ce : Cell} {q : Addr} (hown : s.vm.findClass own = some m.cls) (pre : List ExceptionTableEntry) (x : ExceptionTableEntry) (suf : List ExceptionTableEntry) (hsplit : c.exceptionTable.toList = pre ++ x :: suf)
    (hpass : ∀ z ∈ pre, covers z pc = false ∨ (z.catchType ≠ 0 ∧ ∃ nm : String, (Cond.classLink own z.catchType nm).before args s = true ∧ va_Nc E nm s)) (hx : covers x pc = true) (h0 : x.catchType ≠ 0)
    (hlink : (Cond.classLink own x.catchType name).before args s = true) (hcast : (Cond.castable E name).before args s = true) (hcell : H[q]? = some ce) (hv : ce.vm = .none) (hcl : s.vm.findClass E = some ce.cls)
    (kk : W p l e R s m args below meth c H locs cells slots Q (F0 m x.handlerPc ls [.ref q])) : vx_W p l e R s m args below meth c H locs cells slots Q (F0 m pc ls rest) q := by
  intro T hT X
  have hpl : e.platform.magicAccessors = ({} : Platform).magicAccessors := by rw [X.admits.platform]
  obtain ⟨c3, c4, hc3, hc4, hasg⟩ := Cond.castable_spec hcast
  cases Option.some.inj (hc3.symm.trans hcl)
  obtain ⟨c5, hc5, hcl5⟩ := Cond.classLink_spec hown hlink e.platform hpl
  cases Option.some.inj (hc4.symm.trans hc5)
  obtain ⟨vm', X', st⟩ := X.thenCaughtThrough q (g := F0 m pc ls rest) rfl (Steps.refl _) (by rw [hT]; exact hcell) (by rw [hv]; rfl) (by obtain ⟨k9, h9, -⟩ := Vm.findClass_spec hcl; exact ⟨k9, h9⟩) pre x suf hsplit
    (fun z hz => by
      rcases hpass z hz with h | ⟨hz0, nm, hl1, hn1⟩
      · exact Or.inl h
      · obtain ⟨c6, hc6, hcl6⟩ := Cond.classLink_spec hown hl1 e.platform hpl
        obtain ⟨a8, b8, h1, h2, h3⟩ := hn1
        cases Option.some.inj (h1.symm.trans hcl)
        cases Option.some.inj (h2.symm.trans hc6)
        exact Or.inr ⟨hz0, _, hcl6, h3⟩) hx (Or.inr ⟨h0, c4, hcl5, hasg⟩)
  obtain ⟨t, a1, b1⟩ := kk (T.setVm vm') hT X'
  exact ⟨t, st.trans a1, b1⟩
end Rows
section Ends
variable {p : Program} {l : Launch} {e : Env} {R : Room} {s : State} {m : MethodId} {args : Array Value} {below : List Frame} {meth : Method} {c : Code} {H : Heap} {locs : List Loc} {cells slots : Nat} {Q : State → Prop}
variable {mc ms : Nat} {free : Addr → Prop} {A0 A1 : Nat → Prop} {H0 : Heap} {a : Array Value} {ls : Array Slot} {st0 rest : List Value}
variable {Qc : Array Value → State → Outcome → State → Prop} {XC : String → State → State → Prop}
/-- what a body that may throw owes at its end -/
def vx_MQ (below : List Frame) (Qc : Array Value → State → Outcome → State → Prop) (XC : String → State → State → Prop) (a : Array Value) (s : State) (mc ms : Nat) (free : Addr → Prop) : State → Prop := fun t =>
  ∃ o, t.status = .running ∧ Ended t below o ∧ vx_Q Qc XC mc ms free a s o t
theorem vx_ret {g : JFrame} {mc ms : Nat} (k : W p l e R s m args below meth c H locs cells slots (MQ below Qc args s mc ms free) g) : W p l e R s m args below meth c H locs cells slots (vx_MQ below Qc XC args s mc ms free) g := by
  intro T hT X
  obtain ⟨t, a1, o, b1, b2, b3, b4⟩ := k T hT X
  exact ⟨t, a1, o, b1, b2, Or.inl ⟨b3, b4⟩⟩
/-- not caught here: it goes on to the caller -/
theorem vx_widen {g : JFrame} {q : Addr} {k n : Nat} (h1 : cells ≤ k) (h2 : slots ≤ n) (kk : vx_W p l e R s m args below meth c H locs k n Q g q) : vx_W p l e R s m args below meth c H locs cells slots Q g q := fun T hT X => kk T hT (stand_widen X h1 h2)
theorem vx_out {pc : Nat} {E : String} {ce : Cell} {q : Addr} {mc ms : Nat} (hout : ∀ x ∈ c.exceptionTable.toList, covers x pc = false) (hlocks : meth.locks = false) (hcell : H[q]? = some ce) (hv : ce.vm = .none) (hcl : s.vm.findClass E = some ce.cls)
    (hx : ∀ t : State, t.heap = H → s.vm.Alike t.vm → XC E s t) (hf : ∀ z ∈ locs, free z.base) (hc : cells ≤ mc) (hs : slots ≤ ms) :
    vx_W p l e R s m args below meth c H locs cells slots (vx_MQ below Qc XC args s mc ms free) (F0 m pc ls rest) q := by
  intro T hT X
  obtain ⟨st1, hrun, hend, hW, hsm⟩ := X.leaveThrown q (g := F0 m pc ls rest) rfl rfl rfl hout hlocks
  have hcell9 : (T.setFrames (.throwing q :: below)).heap[q]? = some ce := by
    show T.heap[q]? = some ce
    rw [hT]; exact hcell
  exact ⟨_, st1, .threw q, hrun, hend, Or.inr ⟨q, rfl, E, ce, locs, hx _ hT hW.alike, hcell9, hv, hcl, hW, hsm.mono hc hs, hf⟩⟩
theorem vx_frame {U : State} {k n : Nat} (h : s.sameButNew ({ U with vm := s.vm } : State) locs k n) : s.heap.size ≤ U.heap.size ∧ ∀ q : Nat, q < s.heap.size → (∀ z ∈ locs, z.base ≠ q) → U.heap[q]? = s.heap[q]? := by
  obtain ⟨-, h2, -, -, -, h6⟩ := h
  refine ⟨h2, fun q hq hz => ?_⟩
  obtain ⟨c9, e1, e2, e3, e4⟩ := h6 q _ (Array.getElem?_eq_getElem hq)
  have hs : c9.slots = (s.heap[q]).slots := Array.ext_getElem? fun i => e4 i fun hm => hz _ hm rfl
  have h9 : c9 = s.heap[q] := by
    rw [hs] at e2
    exact e2
  have e5 : U.heap[q]? = some c9 := e1
  rw [e5, h9, Array.getElem?_eq_getElem hq]
/-- the words of a throw but the four that speak of the heap -/
def vx_no (w : Cond) : Bool := decide (w ≠ .isRef (.static Bundle.tN "UNASSIGNED_STACK" Bundle.steD)) && decide (w ≠ .isRef (.static Bundle.tN "SUPPRESSED_SENTINEL" Bundle.listD)) && decide (w ≠ .laysStatic Bundle.tN "UNASSIGNED_STACK" Bundle.steD) && decide (w ≠ .laysStatic Bundle.tN "SUPPRESSED_SENTINEL" Bundle.listD)
def vx_at0 (own : String) (ic : Nat) (X : String) (names : List String) : List Cond := (Bundle.ownAtoms0 own ic X names).filter vx_no
def vx_atS (own : String) (ic : Nat) (X : String) (names : List String) : List Cond := (Bundle.ownAtoms own ic X names).filter vx_no
/-- a word that the tables alone decide, or a good one -/
def vx_ot (w : Cond) : Bool := w.onTables || goodWord w
theorem vx_ot_at {args a' : Array Value} {s U : State} {w : Cond} (hW : s.WarmedH U.vm) (hvm : s.vm = U.vm) (hg : vx_ot w = true) (h : w.before args s = true) : w.before a' U = true := by
  simp only [vx_ot, Bool.or_eq_true] at hg
  rcases hg with hg | hg
  · exact va_tabs hg hvm h
  · exact word_at hW (good_of_word hg) h
/-- a list's words: the good ones out of the method's own list, the others by premises of their own -/
theorem vx_hat {args : Array Value} {s : State} {L B : List Cond} (h1 : ∀ w ∈ L.filter goodWord, w.before args s = true) (h2 : ∀ w ∈ L.filter (fun w => !goodWord w), w ∈ B) (h3 : ∀ w ∈ B, w.before args s = true) : ∀ w ∈ L, w.before args s = true := by
  intro w hw
  by_cases g : goodWord w = true
  · exact h1 w (List.mem_filter.mpr ⟨hw, g⟩)
  · refine h3 w (h2 w (List.mem_filter.mpr ⟨hw, ?_⟩))
    show (!goodWord w) = true
    cases hgw : goodWord w
    · rfl
    · exact absurd hgw g
theorem vx_c {args : Array Value} {s : State} {w : Cond} {B : List Cond} (h : w.before args s = true) (t : ∀ w ∈ B, w.before args s = true) : ∀ w' ∈ w :: B, w'.before args s = true := fun w' h' => (List.mem_cons.mp h').elim (fun e => by rw [e]; exact h) (t w')
theorem vx_n {args : Array Value} {s : State} : ∀ w ∈ ([] : List Cond), w.before args s = true := fun _ h => nomatch h
theorem vx_own {args : Array Value} {s : State} {L : List Cond} (h1 : ∀ w ∈ L.filter vx_no, w.before args s = true)
    (hU : (Cond.isRef (.static Bundle.tN "UNASSIGNED_STACK" Bundle.steD)).before args s = true) (hN : (Cond.isRef (.static Bundle.tN "SUPPRESSED_SENTINEL" Bundle.listD)).before args s = true)
    (lU : (Cond.laysStatic Bundle.tN "UNASSIGNED_STACK" Bundle.steD).before args s = true) (lN : (Cond.laysStatic Bundle.tN "SUPPRESSED_SENTINEL" Bundle.listD).before args s = true) : ∀ w ∈ L, w.before args s = true := by
  intro w hw
  by_cases e1 : w = .isRef (.static Bundle.tN "UNASSIGNED_STACK" Bundle.steD)
  · rw [e1]; exact hU
  · by_cases e2 : w = .isRef (.static Bundle.tN "SUPPRESSED_SENTINEL" Bundle.listD)
    · rw [e2]; exact hN
    · by_cases e3 : w = .laysStatic Bundle.tN "UNASSIGNED_STACK" Bundle.steD
      · rw [e3]; exact lU
      · by_cases e4 : w = .laysStatic Bundle.tN "SUPPRESSED_SENTINEL" Bundle.listD
        · rw [e4]; exact lN
        · exact h1 w (List.mem_filter.mpr ⟨hw, by unfold vx_no; rw [decide_eq_true e1, decide_eq_true e2, decide_eq_true e3, decide_eq_true e4]; rfl⟩)
/-- where a static field lies, its class's statics cell in H -/
def vx_L (C n d : String) (A : Nat → Prop) (U : State) (H : Heap) : Prop := ∃ (c : ClassId) (k : Class) (i : Nat) (f : Field) (a : Nat) (cell : Cell), U.vm.findClass C = some c ∧ U.fieldFound? C n d = some (c, k, i, f) ∧ f.isStatic = true ∧ k.statics = some a ∧ H[a]? = some cell ∧ cell.vm.isStatics = true ∧ cell.cls = c ∧ f.slot < cell.slots.size ∧ k.staticTypes[f.slot]? = some f.type ∧ ¬ A a
theorem vx_L.moved {C n d : String} {A : Nat → Prop} {u U : State} {H : Heap} (hvm : u.vm.Alike U.vm) (h : vx_L C n d A u H) : vx_L C n d A U H := by
  obtain ⟨c, k, i, f, a, cell, h1, h2, h3, h4, h5, h6, h7, h8, h9, h10⟩ := h
  obtain ⟨k', hi', he⟩ := State.fieldFound?_setVm hvm h2
  exact ⟨c, k', i, f, a, cell, by rw [hvm.findClass]; exact h1, hi', h3, by rw [he]; exact h4, h5, h6, h7, h8, by rw [he]; exact h9, h10⟩
theorem vx_L.kept {C n d : String} {A : Nat → Prop} {U : State} {H H1 : Heap} (h : vx_L C n d A U H) (hq : ∀ a : Nat, a < H.size → ¬ A a → H1[a]? = H[a]?) : vx_L C n d A U H1 := by
  obtain ⟨c, k, i, f, a, cell, h1, h2, h3, h4, h5, h6, h7, h8, h9, h10⟩ := h
  exact ⟨c, k, i, f, a, cell, h1, h2, h3, h4, by rw [hq a (Array.getElem?_eq_some_iff.mp h5).1 h10]; exact h5, h6, h7, h8, h9, h10⟩
theorem vx_L.narrow {C n d : String} {A B : Nat → Prop} {U : State} {H : Heap} (h : vx_L C n d A U H) (hAB : ∀ q, B q → A q) : vx_L C n d B U H := by
  obtain ⟨c, k, i, f, a, cell, h1, h2, h3, h4, h5, h6, h7, h8, h9, h10⟩ := h
  exact ⟨c, k, i, f, a, cell, h1, h2, h3, h4, h5, h6, h7, h8, h9, fun z => h10 (hAB _ z)⟩
theorem vx_L.word {C n d : String} {A : Nat → Prop} {s : State} {args : Array Value} (h : vx_L C n d A s s.heap) : (Cond.laysStatic C n d).before args s = true := by
  obtain ⟨c, k, i, f, a, cell, h1, h2, h3, h4, h5, h6, h7, h8, h9, -⟩ := h
  show (Cond.laysStatic C n d).holds args s none s [] = true
  exact Cond.laysStatic_of h1 h2 h3 h4 h5 h6 h7 h8 h9
/-- .. and what it holds: null or some reference -/
def vx_Zq (C n d : String) (A : Nat → Prop) (U : State) (H : Heap) : Prop := va_Zq C n d A U H ∧ vx_L C n d A U H
theorem vx_Zq.moved {C n d : String} {A : Nat → Prop} {u U : State} {H : Heap} (hvm : u.vm.Alike U.vm) (h : vx_Zq C n d A u H) : vx_Zq C n d A U H := ⟨va_Zq.moved hvm h.1, vx_L.moved hvm h.2⟩
theorem vx_Zq.kept {C n d : String} {A : Nat → Prop} {U : State} {H H1 : Heap} (h : vx_Zq C n d A U H) (hq : ∀ a : Nat, a < H.size → ¬ A a → H1[a]? = H[a]?) : vx_Zq C n d A U H1 := ⟨va_Zq.kept h.1 hq, vx_L.kept h.2 hq⟩
theorem vx_Zq.narrow {C n d : String} {A B : Nat → Prop} {U : State} {H : Heap} (h : vx_Zq C n d A U H) (hAB : ∀ q, B q → A q) : vx_Zq C n d B U H := ⟨va_Zq.narrow h.1 hAB, vx_L.narrow h.2 hAB⟩
theorem vx_Zqof {args : Array Value} {s : State} {C n d : String} {A : Nat → Prop} (hl : (Cond.laysStatic C n d).before args s = true) (hini : (Cond.initialized C).before args s = true) (h : (Cond.isRef (.static C n d)).before args s = true) (hA : ∀ a : Nat, a < s.heap.size → ¬ A a) : vx_Zq C n d A s s.heap := by
  refine ⟨va_Zqof hl hini h hA, ?_⟩
  obtain ⟨c, k, i, f, a, cell, h1, h2, h3, h4, h5, h6, h7, h8, h9⟩ := Cond.laysStatic_spec hl
  exact ⟨c, k, i, f, a, cell, h1, h2, h3, h4, h5, h6, h7, h8, h9, hA a (Array.getElem?_eq_some_iff.mp h5).1⟩
theorem vx_isRef {C n d : String} {v : Value} {A : Nat → Prop} {s : State} {args : Array Value} (h : va_Z C n d v A s s.heap) (hv : v.isRef = true) : (Cond.isRef (.static C n d)).before args s = true := by
  obtain ⟨cf, kf, fi, f, a, cell, h1, h2, h3, h4, h5, h6, h7, -⟩ := h
  have he : (Term.static C n d).eval args s none [] s = some v := by
    simp [Term.eval, State.fieldNamed?, h1, h2, h4, h5, h6, h7]
  simp only [Cond.before, Cond.holds, Cond.value, he]
  cases v <;> simp_all [Value.isRef]
theorem vx_isRefq {C n d : String} {A : Nat → Prop} {s : State} {args : Array Value} (h : va_Zq C n d A s s.heap) : (Cond.isRef (.static C n d)).before args s = true := by
  rcases h with h | ⟨t, h⟩
  · exact vx_isRef h rfl
  · exact vx_isRef h rfl
/-- the same frame, seen from here: as if the method were called anew in this heap -/
theorem vx_rebase {T : State} (X : Stand p l e R s m args below meth c T locs cells slots) {R' : Room} (hf : R'.frames ≤ R.frames) (hl : R'.locals ≤ R.locals) (hc : cells + R'.cells ≤ R.cells) (hs : slots + R'.slots ≤ R.slots) :
    Stand p l e R' ((T.setVm s.vm).setFrames (.invoking m args :: below)) m args below meth c T [] 0 0 := by
  have htop : (T.setVm s.vm).topJava?.isSome := X.here.top
  have hF : ((T.setVm s.vm).setFrames (.invoking m args :: below)).frames = .invoking m args :: below := State.frames_setFrames _ (State.cur_lt_of_top htop)
  obtain ⟨g₀, hg0⟩ := Option.isSome_iff_exists.mp htop
  obtain ⟨r, hr⟩ := State.topJava?_eq_some.mp hg0
  have hl9 : e.platform.stackLimits (T.setVm s.vm).me = e.platform.stackLimits s.me := X.limits
  have hb9 : (T.setVm s.vm).me.stackBytes = s.me.stackBytes := X.bytes
  refine ⟨X.admits, X.cas, X.clock, hF, ?_, X.hears, X.method, X.code, X.here, X.tail, X.warmed, ?_, ?_, ?_⟩
  · have h := X.room
    have hU : ((T.setVm s.vm).setFrames (.invoking m args :: below)).localsInUse = s.localsInUse := by
      rw [State.localsInUse_invoking hF (meth := meth) (c := c) X.method X.code, State.localsInUse_invoking X.frames X.method X.code]
    simp only [State.hasRoom, Bool.and_eq_true, decide_eq_true_eq] at h ⊢
    obtain ⟨⟨⟨⟨h1, h2, h3, h4, h5, h6⟩, h7⟩, h8⟩, h9⟩ := h
    rw [X.frames, List.length_cons] at h2 h3
    have q1 := X.heapSize
    have q2 := X.used
    simp only [hF, hU, List.length_cons, State.stackLimits_setFrames, State.stackBytes_setFrames, hl9, hb9]
    refine ⟨⟨⟨⟨by omega, by omega, by omega, by omega, by omega, h6⟩, ?_⟩, ?_⟩, X.book⟩
    · show T.heap.size + R'.cells ≤ e.platform.maxCells
      omega
    · show T.slotsUsed + R'.slots ≤ e.platform.maxSlots
      omega
  · rw [State.stackLimits_setFrames]; rfl
  · rw [State.stackBytes_setFrames]; rfl
  · refine ⟨?_, Nat.le_refl _, Nat.le_refl _, ?_, ?_, fun a c9 h9 => ⟨c9, h9, rfl, rfl, fun _ _ => rfl⟩⟩
    · obtain ⟨t, ht, -⟩ := State.frames_cons hr
      show T.setVm s.vm = { ((T.setVm s.vm).setFrames (.invoking m args :: below)).setFrames (T.setVm s.vm).frames with heap := T.heap, slotsUsed := T.slotsUsed }
      rw [State.setFrames_setFrames, State.setFrames_self ht]
      rfl
    · show T.slotsUsed = T.slotsUsed + ((T.heap.toList.drop T.heap.size).map (·.slots.size)).sum
      rw [List.drop_eq_nil_of_le (Nat.le_of_eq Array.length_toList)]
      rfl
    · show ((T.heap.toList.drop T.heap.size).map (·.slots.size)).sum ≤ 0
      rw [List.drop_eq_nil_of_le (Nat.le_of_eq Array.length_toList)]
      exact Nat.le_refl _
/-- 'throw new E()': new; dup; invokespecial; athrow -/
theorem vx_throw0 {cc : ByteArray} {pc : Nat} (hexec : p.tables.exec = Jvm.exec) (hb : c.code = cc) (hl : l.stackTraces = false) {own cls : String} {names : List String} {ik ic mc ms : Nat} {A : Nat → Prop}
    (hown : s.vm.findClass own = some m.cls) (hcls : Bundle.fit cls = true) (hnames : ∀ n ∈ names, Bundle.fit n = true)
    (hk : (Cond.classLink own ik cls).before args s = true) (hini : (Cond.initialized cls).before args s = true) (hat : ∀ w ∈ vx_at0 own ic cls names, w.before args s = true)
    (hgood : ∀ w ∈ Cond.classLink own ik cls :: Cond.initialized cls :: vx_at0 own ic cls names, vx_ot w = true)
    (hU : vx_Zq Bundle.tN "UNASSIGNED_STACK" Bundle.steD A s s.heap) (hN : vx_Zq Bundle.tN "SUPPRESSED_SENTINEL" Bundle.listD A s s.heap) (hS : va_S A s.heap H locs) (hsize : ls.size = c.maxLocals)
    (d0 : decode cc pc = .ok (.new ik, 3)) (d3 : decode cc (pc + 3) = .ok (.dup, 1)) (d4 : decode cc (pc + 4) = .ok (.invokespecial ic, 3)) (d7 : decode cc (pc + 7) = .ok (.athrow, 1))
    (hout : ∀ x ∈ c.exceptionTable.toList, covers x (pc + 7) = false)
    (hRframes : names.length + 3 < R.frames) (hRlocals : (rest.map fun v => v.category).sum + (13 * (names.length + 1) + 42) ≤ R.locals) (hRcells : cells + 1 ≤ R.cells) (hRslots : slots + 6 ≤ R.slots) (hlocks : meth.locks = false)
    (hx : ∀ t : State, s.vm.Alike t.vm → H.size ≤ t.heap.size → (∀ q : Nat, q < H.size → t.heap[q]? = H[q]?) → XC cls s t)
    (hf : ∀ z ∈ locs, free z.base) (hc : cells + 1 ≤ mc) (hs : slots + 6 ≤ ms) :
    W p l e R s m args below meth c H locs cells slots (vx_MQ below Qc XC args s mc ms free) (F0 m pc ls rest) := by
  intro T hT X
  have htr : e.platform.stackTraces = false := (show e.platform.stackTraces = l.stackTraces by rw [X.admits.platform]).trans hl
  have Y := vx_rebase X (R' := { frames := R.frames, locals := R.locals, cells := 1, slots := 6 }) (Nat.le_refl _) (Nat.le_refl _) hRcells hRslots
  obtain ⟨s', hA⟩ : ∃ z, z = (T.setVm s.vm).setFrames (.invoking m args :: below) := ⟨_, rfl⟩
  rw [← hA] at Y
  have hvm : s'.vm = s.vm := by rw [hA]; rfl
  have hhp : s'.heap = H := by rw [hA]; exact hT
  have hW0 : s.WarmedH s'.vm := by rw [hvm]; exact State.WarmedH.refl s
  have hat' : ∀ w ∈ vx_at0 own ic cls names, w.before args s' = true := fun w hw => vx_ot_at hW0 hvm.symm (hgood w (List.mem_cons_of_mem _ (List.mem_cons_of_mem _ hw))) (hat w hw)
  have hk' : (Cond.classLink own ik cls).before args s' = true := vx_ot_at hW0 hvm.symm (hgood _ List.mem_cons_self) hk
  have hini' : (Cond.initialized cls).before args s' = true := vx_ot_at hW0 hvm.symm (hgood _ (List.mem_cons_of_mem _ List.mem_cons_self)) hini
  have hU' : vx_Zq Bundle.tN "UNASSIGNED_STACK" Bundle.steD A s' s'.heap := by rw [hhp]; exact vx_Zq.moved hW0.alike (hU.kept hS.2.1)
  have hN' : vx_Zq Bundle.tN "SUPPRESSED_SENTINEL" Bundle.listD A s' s'.heap := by rw [hhp]; exact vx_Zq.moved hW0.alike (hN.kept hS.2.1)
  have h : ∀ w ∈ Bundle.ownAtoms0 own ic cls names, w.before args s' = true := vx_own hat' (vx_isRefq hU'.1) (vx_isRefq hN'.1) hU'.2.word hN'.2.word
  have hown' : s'.vm.findClass own = some m.cls := by rw [hvm]; exact hown
  have hins : (Cond.instantiable cls 6).before args s' = true := h _ (by simp [Bundle.ownAtoms0])
  obtain ⟨vm₁, cX, kX, hfX, hkX, -, -, X₁, st1⟩ := Y.newCold hexec (own := own) (C := cls) (index := ik) (n := 6) hown' hk' hins hini'
    (g := F0 m pc ls rest) rfl (by rw [hb]; exact d0) (Nat.le_refl _) (Nat.le_refl _)
  generalize hT1 : (T.setVm vm₁).pushCell { cls := cX, slots := kX.instanceTypes.map defaultValue, vm := .none } = T1 at X₁ st1
  have hcat : (Value.ref T.heap.size).category = 1 := rfl
  have hcellA : T1.heap[T.heap.size]? = some (freshCell cX kX) := by rw [← hT1]; exact State.heap_pushCell_size _ _
  have d3' : decode c.code (pc + 3) = .ok (.dup, 1) := by rw [hb]; exact d3
  obtain ⟨U, hsteps, hrun, hend, hW, hsame, ce, hce, hO⟩ := X₁.ctorThrow0 hexec htr (own := own) (cls := cls) (names := names) (ic := ic) hown' hcls hnames h (fun x hx => nomatch hx) hfX hkX hcellA (by rw [hhp, hT]; exact Nat.le_refl _)
    (g := { method := m, pc := pc + 4, locals := ls, stack := .ref T.heap.size :: .ref T.heap.size :: rest, locked := none }) rfl hsize rfl rfl (rest := rest) rfl
    (by rw [hb]; exact d4) (by rw [hb]; exact d7) hout hRframes (by simp only [List.map_cons, List.sum_cons, hcat]; omega) hlocks
  obtain ⟨f1, f2⟩ := vx_frame hsame
  rw [hhp] at f1 f2
  have hWs : s.WarmedH U.vm := State.WarmedH.trans hW0 hW
  have hcl : s.vm.findClass cls = some ce.cls := by
    have h9 := hO.cls
    rw [hvm] at h9
    exact h9
  have hall : s.sameButNew ({ U with vm := s.vm } : State) locs mc ms := by
    subst hA
    obtain ⟨e1, e2⟩ := hsame
    rw [State.setFrames_setFrames] at e1
    have h2 : (T.setVm s.vm).sameButNew ({ U with vm := s.vm } : State) [] (0 + 1) (0 + 6) := ⟨e1, e2⟩
    have h3 := X.same.trans h2
    rw [List.append_nil] at h3
    exact h3.mono hc hs
  refine ⟨U, ?_, .threw T.heap.size, hrun, hend, Or.inr ⟨T.heap.size, rfl, cls, ce, locs, hx U hWs.alike f1 (fun q hq => f2 q hq (fun z hz => nomatch hz)), hce, hO.vm, hcl, hWs, hall, hf⟩⟩
  refine st1 _ ?_
  show Steps p.tables e below (T1.setTop { method := m, pc := pc + 3, locals := ls, stack := .ref T.heap.size :: rest, locked := none }) _
  jvm_step X₁.here [X₁.here.top, hexec, d3', Value.category]
  exact hsteps
/-- 'throw new E("text")': new; dup; ldc; invokespecial; athrow -/
theorem vx_throwS {cc : ByteArray} {pc : Nat} (hexec : p.tables.exec = Jvm.exec) (hb : c.code = cc) (hl : l.stackTraces = false) {own cls text : String} {names : List String} {ik is ic mc ms sa : Nat} {A : Nat → Prop}
    (hown : s.vm.findClass own = some m.cls) (hcls : Bundle.fit cls = true) (hnames : ∀ n ∈ names, Bundle.fit n = true)
    (hk : (Cond.classLink own ik cls).before args s = true) (hini : (Cond.initialized cls).before args s = true) (hstr : vk_R own is text sa s) (hat : ∀ w ∈ vx_atS own ic cls names, w.before args s = true)
    (hgood : ∀ w ∈ Cond.classLink own ik cls :: Cond.initialized cls :: vx_atS own ic cls names, vx_ot w = true)
    (hU : vx_Zq Bundle.tN "UNASSIGNED_STACK" Bundle.steD A s s.heap) (hN : vx_Zq Bundle.tN "SUPPRESSED_SENTINEL" Bundle.listD A s s.heap) (hS : va_S A s.heap H locs) (hsize : ls.size = c.maxLocals)
    (d0 : decode cc pc = .ok (.new ik, 3)) (d3 : decode cc (pc + 3) = .ok (.dup, 1)) (d4 : decode cc (pc + 4) = .ok (.ldc is, 2)) (d6 : decode cc (pc + 6) = .ok (.invokespecial ic, 3)) (d9 : decode cc (pc + 9) = .ok (.athrow, 1))
    (hout : ∀ x ∈ c.exceptionTable.toList, covers x (pc + 9) = false)
    (hRframes : names.length + 3 < R.frames) (hRlocals : (rest.map fun v => v.category).sum + (13 * (names.length + 1) + 43) ≤ R.locals) (hRcells : cells + 1 ≤ R.cells) (hRslots : slots + 6 ≤ R.slots) (hlocks : meth.locks = false)
    (hx : ∀ t : State, s.vm.Alike t.vm → H.size ≤ t.heap.size → (∀ q : Nat, q < H.size → t.heap[q]? = H[q]?) → XC cls s t)
    (hf : ∀ z ∈ locs, free z.base) (hc : cells + 1 ≤ mc) (hs : slots + 6 ≤ ms) :
    W p l e R s m args below meth c H locs cells slots (vx_MQ below Qc XC args s mc ms free) (F0 m pc ls rest) := by
  intro T hT X
  have htr : e.platform.stackTraces = false := (show e.platform.stackTraces = l.stackTraces by rw [X.admits.platform]).trans hl
  have Y := vx_rebase X (R' := { frames := R.frames, locals := R.locals, cells := 1, slots := 6 }) (Nat.le_refl _) (Nat.le_refl _) hRcells hRslots
  obtain ⟨s', hA⟩ : ∃ z, z = (T.setVm s.vm).setFrames (.invoking m args :: below) := ⟨_, rfl⟩
  rw [← hA] at Y
  have hvm : s'.vm = s.vm := by rw [hA]; rfl
  have hhp : s'.heap = H := by rw [hA]; exact hT
  have hW0 : s.WarmedH s'.vm := by rw [hvm]; exact State.WarmedH.refl s
  have hat' : ∀ w ∈ vx_atS own ic cls names, w.before args s' = true := fun w hw => vx_ot_at hW0 hvm.symm (hgood w (List.mem_cons_of_mem _ (List.mem_cons_of_mem _ hw))) (hat w hw)
  have hk' : (Cond.classLink own ik cls).before args s' = true := vx_ot_at hW0 hvm.symm (hgood _ List.mem_cons_self) hk
  have hini' : (Cond.initialized cls).before args s' = true := vx_ot_at hW0 hvm.symm (hgood _ (List.mem_cons_of_mem _ List.mem_cons_self)) hini
  have hU' : vx_Zq Bundle.tN "UNASSIGNED_STACK" Bundle.steD A s' s'.heap := by rw [hhp]; exact vx_Zq.moved hW0.alike (hU.kept hS.2.1)
  have hN' : vx_Zq Bundle.tN "SUPPRESSED_SENTINEL" Bundle.listD A s' s'.heap := by rw [hhp]; exact vx_Zq.moved hW0.alike (hN.kept hS.2.1)
  have h : ∀ w ∈ Bundle.ownAtoms own ic cls names, w.before args s' = true := vx_own hat' (vx_isRefq hU'.1) (vx_isRefq hN'.1) hU'.2.word hN'.2.word
  have hown' : s'.vm.findClass own = some m.cls := by rw [hvm]; exact hown
  have hins : (Cond.instantiable cls 6).before args s' = true := h _ (by simp [Bundle.ownAtoms])
  obtain ⟨vm₁, cX, kX, hfX, hkX, -, -, X₁, st1⟩ := Y.newCold hexec (own := own) (C := cls) (index := ik) (n := 6) hown' hk' hins hini'
    (g := F0 m pc ls rest) rfl (by rw [hb]; exact d0) (Nat.le_refl _) (Nat.le_refl _)
  generalize hT1 : (T.setVm vm₁).pushCell { cls := cX, slots := kX.instanceTypes.map defaultValue, vm := .none } = T1 at X₁ st1
  have hcat : (Value.ref T.heap.size).category = 1 := rfl
  have hcellA : T1.heap[T.heap.size]? = some (freshCell cX kX) := by rw [← hT1]; exact State.heap_pushCell_size _ _
  have d3' : decode c.code (pc + 3) = .ok (.dup, 1) := by rw [hb]; exact d3
  have d4' : decode c.code (pc + 4) = .ok (.ldc is, 2) := by rw [hb]; exact d4
  have hstr' : vk_R own is text sa s' := vk_R.warm hW0 hstr
  obtain ⟨U, hsteps, hrun, hend, hW, hsame, ce, hce, hO⟩ := X₁.ctorThrowS hexec htr (own := own) (cls := cls) (names := names) (ic := ic) hown' hcls hnames h (fun x hx => nomatch hx) hfX hkX hcellA (by rw [hhp, hT]; exact Nat.le_refl _) (msg := .ref sa) rfl
    (g := { method := m, pc := pc + 6, locals := ls, stack := .ref sa :: .ref T.heap.size :: .ref T.heap.size :: rest, locked := none }) rfl hsize rfl rfl (rest := rest) rfl
    (by rw [hb]; exact d6) (by rw [hb]; exact d9) hout hRframes (by simp only [List.map_cons, List.sum_cons, hcat]; omega) hlocks
  obtain ⟨f1, f2⟩ := vx_frame hsame
  rw [hhp] at f1 f2
  have hWs : s.WarmedH U.vm := State.WarmedH.trans hW0 hW
  have hcl : s.vm.findClass cls = some ce.cls := by
    have h9 := hO.cls
    rw [hvm] at h9
    exact h9
  have hall : s.sameButNew ({ U with vm := s.vm } : State) locs mc ms := by
    subst hA
    obtain ⟨e1, e2⟩ := hsame
    rw [State.setFrames_setFrames] at e1
    have h2 : (T.setVm s.vm).sameButNew ({ U with vm := s.vm } : State) [] (0 + 1) (0 + 6) := ⟨e1, e2⟩
    have h3 := X.same.trans h2
    rw [List.append_nil] at h3
    exact h3.mono hc hs
  refine ⟨U, ?_, .threw T.heap.size, hrun, hend, Or.inr ⟨T.heap.size, rfl, cls, ce, locs, hx U hWs.alike f1 (fun q hq => f2 q hq (fun z hz => nomatch hz)), hce, hO.vm, hcl, hWs, hall, hf⟩⟩
  refine st1 _ ?_
  show Steps p.tables e below (T1.setTop { method := m, pc := pc + 3, locals := ls, stack := .ref T.heap.size :: rest, locked := none }) _
  jvm_step X₁.here [X₁.here.top, hexec, d3', Value.category]
  exact X₁.ldcString hexec (own := own) (text := text) (index := is) (a := sa) hown' hstr'.1 hstr'.2
    (g := { method := m, pc := pc + 4, locals := ls, stack := .ref T.heap.size :: .ref T.heap.size :: rest, locked := none }) rfl d4' _ hsteps
/-- 'throw new E("text")', the text by a wide index -/
theorem vx_throwSW {cc : ByteArray} {pc : Nat} (hexec : p.tables.exec = Jvm.exec) (hb : c.code = cc) (hl : l.stackTraces = false) {own cls text : String} {names : List String} {ik is ic mc ms sa : Nat} {A : Nat → Prop}
    (hown : s.vm.findClass own = some m.cls) (hcls : Bundle.fit cls = true) (hnames : ∀ n ∈ names, Bundle.fit n = true)
    (hk : (Cond.classLink own ik cls).before args s = true) (hini : (Cond.initialized cls).before args s = true) (hstr : vk_R own is text sa s) (hat : ∀ w ∈ vx_atS own ic cls names, w.before args s = true)
    (hgood : ∀ w ∈ Cond.classLink own ik cls :: Cond.initialized cls :: vx_atS own ic cls names, vx_ot w = true)
    (hU : vx_Zq Bundle.tN "UNASSIGNED_STACK" Bundle.steD A s s.heap) (hN : vx_Zq Bundle.tN "SUPPRESSED_SENTINEL" Bundle.listD A s s.heap) (hS : va_S A s.heap H locs) (hsize : ls.size = c.maxLocals)
    (d0 : decode cc pc = .ok (.new ik, 3)) (d3 : decode cc (pc + 3) = .ok (.dup, 1)) (d4 : decode cc (pc + 4) = .ok (.ldc_w is, 3)) (d7 : decode cc (pc + 7) = .ok (.invokespecial ic, 3)) (d10 : decode cc (pc + 10) = .ok (.athrow, 1))
    (hout : ∀ x ∈ c.exceptionTable.toList, covers x (pc + 10) = false)
    (hRframes : names.length + 3 < R.frames) (hRlocals : (rest.map fun v => v.category).sum + (13 * (names.length + 1) + 43) ≤ R.locals) (hRcells : cells + 1 ≤ R.cells) (hRslots : slots + 6 ≤ R.slots) (hlocks : meth.locks = false)
    (hx : ∀ t : State, s.vm.Alike t.vm → H.size ≤ t.heap.size → (∀ q : Nat, q < H.size → t.heap[q]? = H[q]?) → XC cls s t)
    (hf : ∀ z ∈ locs, free z.base) (hc : cells + 1 ≤ mc) (hs : slots + 6 ≤ ms) :
    W p l e R s m args below meth c H locs cells slots (vx_MQ below Qc XC args s mc ms free) (F0 m pc ls rest) := by
  intro T hT X
  have htr : e.platform.stackTraces = false := (show e.platform.stackTraces = l.stackTraces by rw [X.admits.platform]).trans hl
  have Y := vx_rebase X (R' := { frames := R.frames, locals := R.locals, cells := 1, slots := 6 }) (Nat.le_refl _) (Nat.le_refl _) hRcells hRslots
  obtain ⟨s', hA⟩ : ∃ z, z = (T.setVm s.vm).setFrames (.invoking m args :: below) := ⟨_, rfl⟩
  rw [← hA] at Y
  have hvm : s'.vm = s.vm := by rw [hA]; rfl
  have hhp : s'.heap = H := by rw [hA]; exact hT
  have hW0 : s.WarmedH s'.vm := by rw [hvm]; exact State.WarmedH.refl s
  have hat' : ∀ w ∈ vx_atS own ic cls names, w.before args s' = true := fun w hw => vx_ot_at hW0 hvm.symm (hgood w (List.mem_cons_of_mem _ (List.mem_cons_of_mem _ hw))) (hat w hw)
  have hk' : (Cond.classLink own ik cls).before args s' = true := vx_ot_at hW0 hvm.symm (hgood _ List.mem_cons_self) hk
  have hini' : (Cond.initialized cls).before args s' = true := vx_ot_at hW0 hvm.symm (hgood _ (List.mem_cons_of_mem _ List.mem_cons_self)) hini
  have hU' : vx_Zq Bundle.tN "UNASSIGNED_STACK" Bundle.steD A s' s'.heap := by rw [hhp]; exact vx_Zq.moved hW0.alike (hU.kept hS.2.1)
  have hN' : vx_Zq Bundle.tN "SUPPRESSED_SENTINEL" Bundle.listD A s' s'.heap := by rw [hhp]; exact vx_Zq.moved hW0.alike (hN.kept hS.2.1)
  have h : ∀ w ∈ Bundle.ownAtoms own ic cls names, w.before args s' = true := vx_own hat' (vx_isRefq hU'.1) (vx_isRefq hN'.1) hU'.2.word hN'.2.word
  have hown' : s'.vm.findClass own = some m.cls := by rw [hvm]; exact hown
  have hins : (Cond.instantiable cls 6).before args s' = true := h _ (by simp [Bundle.ownAtoms])
  obtain ⟨vm₁, cX, kX, hfX, hkX, -, -, X₁, st1⟩ := Y.newCold hexec (own := own) (C := cls) (index := ik) (n := 6) hown' hk' hins hini'
    (g := F0 m pc ls rest) rfl (by rw [hb]; exact d0) (Nat.le_refl _) (Nat.le_refl _)
  generalize hT1 : (T.setVm vm₁).pushCell { cls := cX, slots := kX.instanceTypes.map defaultValue, vm := .none } = T1 at X₁ st1
  have hcat : (Value.ref T.heap.size).category = 1 := rfl
  have hcellA : T1.heap[T.heap.size]? = some (freshCell cX kX) := by rw [← hT1]; exact State.heap_pushCell_size _ _
  have d3' : decode c.code (pc + 3) = .ok (.dup, 1) := by rw [hb]; exact d3
  have d4' : decode c.code (pc + 4) = .ok (.ldc_w is, 3) := by rw [hb]; exact d4
  have hstr' : vk_R own is text sa s' := vk_R.warm hW0 hstr
  obtain ⟨U, hsteps, hrun, hend, hW, hsame, ce, hce, hO⟩ := X₁.ctorThrowS hexec htr (own := own) (cls := cls) (names := names) (ic := ic) hown' hcls hnames h (fun x hx => nomatch hx) hfX hkX hcellA (by rw [hhp, hT]; exact Nat.le_refl _) (msg := .ref sa) rfl
    (g := { method := m, pc := pc + 7, locals := ls, stack := .ref sa :: .ref T.heap.size :: .ref T.heap.size :: rest, locked := none }) rfl hsize rfl rfl (rest := rest) rfl
    (by rw [hb]; exact d7) (by rw [hb]; exact d10) hout hRframes (by simp only [List.map_cons, List.sum_cons, hcat]; omega) hlocks
  obtain ⟨f1, f2⟩ := vx_frame hsame
  rw [hhp] at f1 f2
  have hWs : s.WarmedH U.vm := State.WarmedH.trans hW0 hW
  have hcl : s.vm.findClass cls = some ce.cls := by
    have h9 := hO.cls
    rw [hvm] at h9
    exact h9
  have hall : s.sameButNew ({ U with vm := s.vm } : State) locs mc ms := by
    subst hA
    obtain ⟨e1, e2⟩ := hsame
    rw [State.setFrames_setFrames] at e1
    have h2 : (T.setVm s.vm).sameButNew ({ U with vm := s.vm } : State) [] (0 + 1) (0 + 6) := ⟨e1, e2⟩
    have h3 := X.same.trans h2
    rw [List.append_nil] at h3
    exact h3.mono hc hs
  refine ⟨U, ?_, .threw T.heap.size, hrun, hend, Or.inr ⟨T.heap.size, rfl, cls, ce, locs, hx U hWs.alike f1 (fun q hq => f2 q hq (fun z hz => nomatch hz)), hce, hO.vm, hcl, hWs, hall, hf⟩⟩
  refine st1 _ ?_
  show Steps p.tables e below (T1.setTop { method := m, pc := pc + 3, locals := ls, stack := .ref T.heap.size :: rest, locked := none }) _
  jvm_step X₁.here [X₁.here.top, hexec, d3', Value.category]
  exact X₁.ldcStringW hexec (own := own) (text := text) (index := is) (a := sa) hown' hstr'.1 hstr'.2
    (g := { method := m, pc := pc + 4, locals := ls, stack := .ref T.heap.size :: .ref T.heap.size :: rest, locked := none }) rfl d4' _ hsteps
end Ends
section Bodies
variable {l : Launch}
theorem vx_ofW {y : MethodName} {ws ws' : List Cond} {rm : Room} {Pc : Array Value → State → Prop} {Qc : Array Value → State → Outcome → State → Prop} {XC : String → State → State → Prop} {mc ms : Nat} {free : Addr → Prop} {cc : ByteArray} {maxL : Nat} {ret : Option FieldType}
    (hy : plainName y.cls = true) (hw : ws = Cond.code y cc maxL ret :: ws')
    (body : ∀ p e s m args below meth c s₁, BodyLoose p l y (headSpec ws rm) cc maxL ret e s m args below meth c s₁ → c.maxLocals = maxL → (∀ x ∈ c.exceptionTable.toList, False) → Pc args s →
      W p l e (headSpec ws rm).room s m args below meth c s.heap [] 0 0 (vx_MQ below Qc XC args s mc ms free) (entryFrame m args maxL)) : vx_Met l y ws rm Pc Qc XC mc ms free := by
  refine MetFree.of_bodyS (code := cc) (maxLocals := maxL) (ret := ret) hy ?_ ?_
  · intro args s m h hn
    obtain ⟨meth, c, h1, h2, h3, h4, h5, h6, -, -⟩ := Cond.code_spec hn (atoms_spec (ws := ws) h _ (by rw [hw]; exact List.mem_cons_self))
    exact ⟨meth, c, h1, h2, h3, h4, h5, h6⟩
  · intro p e s m args below meth c s₁ B hml hP _
    have hh0 : s₁.heap = s.heap := by rw [B.state]; rfl
    have ht : ∀ x ∈ c.exceptionTable.toList, False := by
      obtain ⟨meth9, c9, h1, h2, -, -, -, -, h7, -⟩ := Cond.code_spec B.named (atoms_spec (ws := ws) B.pre _ (by rw [hw]; exact List.mem_cons_self))
      cases Option.some.inj (h1.symm.trans B.method)
      cases Option.some.inj (h2.symm.trans (Stand.of_body B).code)
      intro x hx
      rw [Array.isEmpty_iff.mp h7] at hx
      cases hx
    obtain ⟨t, a1, o, b1, b2, b3⟩ := body p e s m args below meth c s₁ B hml ht hP s₁ hh0 (Stand.of_body B)
    exact ⟨t, o, a1, b1, b2, b3⟩
/-- the table of a body with handlers -/
theorem vx_table {p : Program} {x y : MethodName} {S : Spec} {cc bytes : ByteArray} {maxL maxL' : Nat} {ret ret' : Option FieldType} {e : Env} {s s₁ : State} {m : MethodId} {args : Array Value} {below : List Frame} {meth : Method} {c : Code} {hh : List (Nat × Nat × Nat × Nat)}
    (B : BodyLoose p l y S cc maxL ret e s m args below meth c s₁) (h : (Cond.codeWith y bytes maxL' ret' hh).before args s = true) : c.exceptionTable.toList = tableOf hh := by
  obtain ⟨m9, meth9, c9, hn9, h1, h2, -, -, h6, -⟩ := Cond.codeWith_spec h
  cases Option.some.inj (hn9.symm.trans B.named)
  cases Option.some.inj (h1.symm.trans B.method)
  cases Option.some.inj (h2.symm.trans (Stand.of_body B).code)
  rw [← h6, table_eq]
end Bodies
end VXA
/-! ===== END ===== -/
/-! ===== BEGIN a static call of a method with an exception table ===== -/
section VXS
variable {p : Program} {l : Launch} {e : Env} {R : Room} {s : State} {m : MethodId} {args : Array Value} {below : List Frame} {meth : Method} {c : Code} {T : State} {H : Heap} {locs : List Loc} {cells slots : Nat}
abbrev vx_CSW (R : Room) (s : State) (args : Array Value) (own : String) (index : Nat) (y : MethodName) (bytes : ByteArray) (maxL : Nat) (ret : Option FieldType) (hh : List (Nat × Nat × Nat × Nat)) (ws : List Cond) (rm : Room) (mc ms n : Nat) : Prop :=
  (rm.cells = mc ∧ rm.slots = ms ∧ rm.frames + 1 ≤ R.frames ∧ 8 + (maxL + 11) + rm.locals ≤ R.locals ∧ (∀ w ∈ ws, ∀ (a' : Array Value) (U : State), s.WarmedH U.vm → w.before a' U = true) ∧ Cond.codeWith y bytes maxL ret hh ∈ ws) ∧
  (Cond.codeWith y bytes maxL ret hh).before args s = true ∧ (Cond.initialized y.cls).before args s = true ∧ (y.cls ≠ "java/lang/invoke/MethodHandle" ∧ y.cls ≠ "java/lang/invoke/VarHandle") ∧
  (∀ sig, parseMethodDescriptor y.desc = some sig → n = sig.parameters.length) ∧ (Cond.methodLink own index y).before args s = true ∧ (Cond.static y).before args s = true
theorem vx_cwSW {own : String} {index maxL mc ms : Nat} {y : MethodName} {bytes : ByteArray} {ret : Option FieldType} {hh : List (Nat × Nat × Nat × Nat)} {Ts ws ws' : List Cond} {rm : Room} (n : Nat) (ht : ∀ w ∈ Ts, w.before args s = true) (hT : GoodIn Ts (va_wsS own index y ws)) (hw : ws = Cond.codeWith y bytes maxL ret hh :: ws') (hrc : rm.cells = mc) (hrs : rm.slots = ms)
    (hd : y.cls ≠ "java/lang/invoke/MethodHandle" ∧ y.cls ≠ "java/lang/invoke/VarHandle" ∧ (parseMethodDescriptor y.desc).map (fun d => d.parameters.length) = some n) (hR : rm.frames + 1 ≤ R.frames ∧ 8 + (maxL + 11) + rm.locals ≤ R.locals) :
    vx_CSW R s args own index y bytes maxL ret hh ws rm mc ms n := by
  have ok : ∀ w ∈ va_wsS own index y ws, w.before args s = true := fun w h => ht w (hT w h).1
  have hG : GoodIn Ts ws := fun w h => hT w (by unfold va_wsS; exact List.mem_append_right _ h)
  have hc : Cond.codeWith y bytes maxL ret hh ∈ ws := by rw [hw]; exact List.mem_cons_self
  refine ⟨⟨hrc, hrs, hR.1, hR.2, pay_in ht hG, hc⟩, ht _ (hG _ hc).1, ok _ (by simp [va_wsS]), ⟨hd.1, hd.2.1⟩, fun sig h => ?_, ok _ (by simp [va_wsS]), ok _ (by simp [va_wsS])⟩
  have h2 := hd.2.2
  rw [h] at h2
  exact (Option.some.inj h2).symm
theorem vx_callSW (X : Stand p l e R s m args below meth c T locs cells slots) (hexec : p.tables.exec = Jvm.exec) {own : String} {index : Nat} {y : MethodName} {bytes : ByteArray} {maxL : Nat} {ret : Option FieldType} {hh : List (Nat × Nat × Nat × Nat)}
    (hown : s.vm.findClass own = some m.cls) (hlink : (Cond.methodLink own index y).before args s = true) (hstat : (Cond.static y).before args s = true) (hinit : (Cond.initialized y.cls).before args s = true)
    (hcode : (Cond.codeWith y bytes maxL ret hh).before args s = true) (hy : y.cls ≠ "java/lang/invoke/MethodHandle" ∧ y.cls ≠ "java/lang/invoke/VarHandle")
    {W9 : Nat} {Pre : Pt → Array Value → Prop} {Post : Pt → Array Value → Option Value → Pt → Prop} (hK : Back l R p e below s args y 3 W9 Pre Post)
    {g : JFrame} (hg : g.method = m) (hsize : g.locals.size = c.maxLocals) {argsL rest : List Value} (hlen : ∀ sig, parseMethodDescriptor y.desc = some sig → argsL.length = sig.parameters.length)
    (hstack : g.stack = argsL.reverse ++ rest) (hW : 2 * g.monitorRoom + (rest.map fun v => v.category).sum ≤ W9) (hdg : decode c.code g.pc = .ok (.invokestatic index, 3))
    (hpre : ∀ vm₁, s.WarmedH vm₁ → Pre ⟨T.setVm vm₁, locs, cells, slots⟩ argsL.toArray) :
    ∃ (v : Option Value) (vm₁ : Vm) (B : Pt), s.WarmedH vm₁ ∧ Stand p l e R s m args below meth c B.U B.locs B.cells B.slots ∧ Post ⟨T.setVm vm₁, locs, cells, slots⟩ argsL.toArray v B ∧
      ∀ target, Steps p.tables e below (B.U.setTop { g with pc := g.pc + 3, stack := v.toList ++ rest }) target → Steps p.tables e below (T.setTop g) target := by
  obtain ⟨mk, methM, cM, hnamed, hmethM, -, -, -, -, -, -, hsigM⟩ := Cond.codeWith_spec hcode
  have hstatic : methM.isStatic = true := Cond.static_spec hnamed hmethM hstat
  obtain ⟨kP, hkP, -⟩ := className_of_methodNamed hnamed
  have hinitP : kP.init = .initialized := Cond.initialized_spec (findClass_of_methodNamed hnamed) hkP hinit
  obtain ⟨vm₁, X₁, hstep₁⟩ := X.invokestatic hexec hown hlink hnamed hmethM hstatic hkP hinitP hy (g := g) hg (argsL := argsL) (rest := rest) (hlen _ hsigM) hstack hdg
  obtain ⟨v, B, X', hpost, hsteps⟩ := hK m meth c ⟨T.setVm vm₁, locs, cells, slots⟩ { g with stack := rest } (.invokestatic index) mk argsL.toArray X₁ hg hsize hdg hW (X₁.named hnamed) (hpre vm₁ X₁.warmed)
  exact ⟨v, vm₁, B, X₁.warmed, X', hpost, fun target h => hstep₁ _ fun acts => by rw [doInvoke_state]; exact hsteps.trans h⟩
theorem vx_runSW {y : MethodName} {bytes cc : ByteArray} {maxL nL mc ms n index : Nat} {ret : Option FieldType} {hh : List (Nat × Nat × Nat × Nat)} {ws : List Cond} {rm : Room} {Pc : Array Value → State → Prop} {Qc : Array Value → State → Outcome → State → Prop} {free : Addr → Prop} {Ts : List Cond} {own : String} {As rest : List Value} {g : JFrame}
    (S : CallFix p m c cc nL s args Ts own) (hM : Met l y ws rm Pc Qc mc ms free) (cw : vx_CSW R s args own index y bytes maxL ret hh ws rm mc ms n) (hp : PreS s H Pc As)
    (hg : g.method = m) (hn : As.length = n) (hsize : g.locals.size = nL) (hstack : g.stack = As.reverse ++ rest) (hW : 2 * g.monitorRoom + (rest.map fun v => v.category).sum ≤ 8) (hdg : decode cc g.pc = .ok (.invokestatic index, 3)) (hf : cells + mc ≤ R.cells ∧ slots + ms ≤ R.slots) :
    va_Run p l e R s m args below meth c H locs cells slots mc ms g rest (Qc As.toArray) (free) := by
  obtain ⟨⟨hrc, hrs, hfr, hlo, hws, hcw⟩, hcode, hini, hy, hlen, hl, hstt⟩ := cw
  have hK : Back l R p e below s args y 3 8 (PreOf R mc ms Pc) (PostOf Qc mc ms free) := va_backW (hh := hh) (bytes := bytes) (maxL := maxL) (ret := ret) hM hp.1 hrc hrs hfr hlo hws hcw (fun a' U hW => word_at hW (Or.inl (by first | rfl | simp [Cond.onTables, Cond.keeps, Cond.steady])) hini)
  obtain ⟨hx, hb, hml, ho, -⟩ := S
  intro T hT X
  obtain ⟨v, vm₁, ⟨U', l2, c2, s2⟩, hW₁, X', ⟨g', mk, t, L, e1, e2, hq, h1, hL, h2, h3⟩, st⟩ := vx_callSW X hx (hh := hh) (bytes := bytes) (maxL := maxL) (ret := ret) ho hl hstt hini hcode hy hK hg (hsize.trans hml.symm) (argsL := As) (rest := rest) (fun sig h => hn.trans (hlen sig h)) hstack hW (by rw [hb]; exact hdg)
    (fun vm₁ hW₁ => ⟨hf.1, hf.2, hp.2 (T.setVm vm₁) hT hW₁⟩)
  dsimp only [Pt.U, Pt.locs, Pt.cells, Pt.slots] at X' e1 e2 h1 h2 h3 st
  subst h1; subst h2; subst h3
  exact ⟨v, (T.setVm vm₁).calling g' mk As.toArray, t, U', L, hT, X', hL, e1, e2, hq, st⟩
/-- not caught here, past rows that name other classes: it goes on to the caller -/
theorem vx_outP {p : Program} {l : Launch} {e : Env} {R : Room} {s : State} {m : MethodId} {args : Array Value} {below : List Frame} {meth : Method} {c : Code} {H : Heap} {locs : List Loc} {cells slots : Nat} {free : Addr → Prop} {ls : Array Slot} {rest : List Value} {Qc : Array Value → State → Outcome → State → Prop} {XC : String → State → State → Prop}
    {pc : Nat} {own E : String} {ce : Cell} {q : Addr} {mc ms : Nat} (hown : s.vm.findClass own = some m.cls) (hlocks : meth.locks = false)
    (hpass : ∀ z ∈ c.exceptionTable.toList, covers z pc = false ∨ (z.catchType ≠ 0 ∧ ∃ nm : String, (Cond.classLink own z.catchType nm).before args s = true ∧ va_Nc E nm s)) (hcell : H[q]? = some ce) (hv : ce.vm = .none) (hcl : s.vm.findClass E = some ce.cls)
    (hx : ∀ t : State, t.heap = H → s.vm.Alike t.vm → XC E s t) (hf : ∀ z ∈ locs, free z.base) (hc : cells ≤ mc) (hs : slots ≤ ms) :
    vx_W p l e R s m args below meth c H locs cells slots (vx_MQ below Qc XC args s mc ms free) (F0 m pc ls rest) q := by
  intro T hT X
  have hpl : e.platform.magicAccessors = ({} : Platform).magicAccessors := by rw [X.admits.platform]
  obtain ⟨vm', hW', X', st⟩ := X.outThrough hlocks q (g := F0 m pc ls rest) rfl rfl rfl (cell := ce) (by rw [hT]; exact hcell) (by rw [hv]; rfl)
    (by obtain ⟨k9, h9, -⟩ := Vm.findClass_spec hcl; exact ⟨k9, h9⟩) (fun z hz => by
      rcases hpass z hz with h | ⟨hz0, nm, hl1, hn1⟩
      · exact Or.inl h
      · obtain ⟨c6, hc6, hcl6⟩ := Cond.classLink_spec hown hl1 e.platform hpl
        obtain ⟨a8, b8, h1, h2, h3⟩ := hn1
        cases Option.some.inj (h1.symm.trans hcl)
        cases Option.some.inj (h2.symm.trans hc6)
        exact Or.inr ⟨hz0, _, hcl6, h3⟩)
  obtain ⟨g₀, hfr⟩ := X'.frames_eq
  have hcell9 : ((T.setVm vm').setFrames (.throwing q :: below)).heap[q]? = some ce := by
    show T.heap[q]? = some ce
    rw [hT]; exact hcell
  have hend : Ended ((T.setVm vm').setFrames (.throwing q :: below)) below (.threw q) := State.frames_setFrames _ (State.cur_lt_of_frames hfr)
  refine ⟨(T.setVm vm').setFrames (.throwing q :: below), ?_, .threw q, X'.here.running, hend, Or.inr ⟨q, rfl, E, ce, locs, hx _ hT (X'.ends _).1.alike, hcell9, hv, hcl, (X'.ends _).1, (X'.ends _).2.mono hc hs, hf⟩⟩
  rw [X.pushThrowing_eq]
  exact st
/-- a thing of a world lies in the heap -/
theorem vx_lt {D : va_G} {cl : List vw_C} {ws : va_W} {H1 : Heap} (h : va_P D cl ws H1) {k : Nat} {q : Nat × va_E} (hk : ws[k]? = some q) : q.1 < H1.size := (h k q hk).lt
end VXS
/-! ===== END ===== -/
/-! ===== BEGIN methods with a table of their own: called by a name, returning or throwing ===== -/
section VXH
/-! vx_backW, vx_callVX, vx_callSX, vx_callVW, vx_runVW, vx_runVX, vx_runSX, vx_ofWH follow the same proofs as their sisters above (Free/Laws.lean, Shelf42/LK1.lean); vx_outP calls Shelf42/NT130.lean (outThrough). -/
section
variable {l : Launch} {R : Room} {p : Program} {e : Env} {below : List Frame} {s : State} {sargs : Array Value} {y : MethodName} {len W9 : Nat}
theorem vx_backW {ws : List Cond} {rm : Room} {Pc : Array Value → State → Prop} {Qc : Array Value → State → Outcome → State → Prop} {XC : String → State → State → Prop} {mc ms : Nat} {free : Addr → Prop} {bytes : ByteArray} {maxL : Nat} {ret : Option FieldType} {hh : List (Nat × Nat × Nat × Nat)}
    (hM : vx_Met l y ws rm Pc Qc XC mc ms free) (hblind : FrameBlind Pc) (hrc : rm.cells = mc) (hrs : rm.slots = ms)
    (hframes : rm.frames + 1 ≤ R.frames) (hlocals : W9 + (maxL + 11) + rm.locals ≤ R.locals)
    (hws : ∀ w ∈ ws, ∀ a' U, s.WarmedH U.vm → w.before a' U = true) (hcode : Cond.codeWith y bytes maxL ret hh ∈ ws) (hinit : ∀ a' U, s.WarmedH U.vm → (Cond.initialized y.cls).before a' U = true) :
    vx_Back l R p e below s sargs y len W9 (PreOf R mc ms Pc) (PostOf Qc mc ms free) (vx_Post XC mc ms free) := by
  intro m meth c A g ig mk a X hg hsize hdg hW hn hp
  have h1 : (headSpec ws rm).pre.before a A.U = true := atoms_intro fun w hw => hws w hw _ _ X.warmed
  have h2 : (Cond.codeWith y bytes maxL ret hh).before a A.U = true := hws _ hcode _ _ X.warmed
  have h3 : (Cond.initialized y.cls).before a A.U = true := hinit _ _ X.warmed
  have h4 : A.cells + (headSpec ws rm).room.cells ≤ R.cells := by rw [show (headSpec ws rm).room.cells = mc from hrc]; exact hp.1
  have h5 : A.slots + (headSpec ws rm).room.slots ≤ R.slots := by rw [show (headSpec ws rm).room.slots = ms from hrs]; exact hp.2.1
  have hPc : Pc a (A.U.calling g mk a) := hblind _ _ _ _ hp.2.2
  obtain ⟨U, Ls, c0, s0⟩ := A
  dsimp only [Pt.U, Pt.locs, Pt.cells, Pt.slots] at h1 h2 h3 h4 h5 X hn hPc ⊢
  obtain ⟨m9, methY, cY, hn9, hmY, hcY, -, hlY, -⟩ := Cond.codeWith_spec h2
  cases Option.some.inj (hn9.symm.trans hn)
  obtain ⟨kY, hkY, -⟩ := className_of_methodNamed hn
  have hinitY : kY.init = .initialized := Cond.initialized_spec (findClass_of_methodNamed hn) hkY h3
  have h : At U g.method c below := by rw [hg]; exact X.here
  have hlocals9 : W9 + (maxL + 11) + (headSpec ws rm).room.locals ≤ R.locals := hlocals
  have happ : (headSpec ws rm).appliesLoose y e.platform (U.calling g mk a) = true :=
    Spec.appliesLoose_calling (g := g) h hdg hn hkY hinitY
      (X.room_calling (g := g) (R' := (headSpec ws rm).room) hsize hmY hcY hframes (by rw [hlY]; omega) h4 h5) h1
  obtain ⟨mid, hmid⟩ := h.above
  have hfr : (U.setTop g).frames = (.java g :: mid) ++ below := by rw [State.frames_setTop' g h.top, hmid]; rfl
  obtain ⟨o, s₂, hsteps, -, hend, hq⟩ := Steps.callFree hM p X.admits X.cas X.clock (acts := []) hfr happ hPc trivial
  have hq' : vx_Q Qc XC mc ms free a (U.calling g mk a) o s₂ := hq
  rw [State.frames_setTop' g h.top] at hend
  obtain ⟨g₀, hg0⟩ := Option.isSome_iff_exists.mp h.top
  obtain ⟨r, hr⟩ := State.topJava?_eq_some.mp hg0
  have hr' : (({ U with heap := s₂.heap, slotsUsed := s₂.slotsUsed } : State).setVm s₂.vm).frames = .java g₀ :: r := hr
  rcases hq' with ⟨hqc, L, hfe, hL⟩ | ⟨q, rfl, E, ce, L, hx, hce, hcv, hcl, hW₂, hsm, hL⟩
  · obtain ⟨⟨v, rfl⟩, hW₂, e2, q2, q3, q4, q5, q6⟩ := id hfe
    have e3 : s₂ = ({ (U.calling g mk a).setFrames s₂.frames with heap := s₂.heap, slotsUsed := s₂.slotsUsed } : State).setVm s₂.vm := by
      have : s₂ = ({ s₂ with vm := (U.calling g mk a).vm } : State).setVm s₂.vm := rfl
      rw [e2] at this
      exact this
    obtain ⟨c₂, i₂, len₂, hc₂, hd₂, hf₂⟩ := hend
    have hW' : U.WarmedH s₂.vm := hW₂
    have hcc : c₂ = c := by
      have h1 : s₂.code? g.method = U.code? g.method := by
        rw [State.code?_eq, State.code?_eq, hW'.alike.method?]
      exact Option.some.inj (hc₂.symm.trans (h1.trans h.code))
    subst hcc
    have hlen : len₂ = len := by rw [hdg] at hd₂; cases hd₂; rfl
    subst hlen
    have hs₂ : s₂ = (({ U with heap := s₂.heap, slotsUsed := s₂.slotsUsed } : State).setVm s₂.vm).setTop { g with pc := g.pc + len₂, stack := v.toList ++ g.stack } := by
      refine e3.trans ?_
      rw [hf₂, State.calling_eq h.top, State.setFrames_setFrames, State.setTop_of_frames _ hr', hr]
      rfl
    have hsame : U.sameButNew ({ U with heap := s₂.heap, slotsUsed := s₂.slotsUsed } : State) L mc ms := by
      refine ⟨?_, q2, q3, q4, q5, q6⟩
      obtain ⟨t, ht, -⟩ := State.frames_cons hr
      show ({ U with heap := s₂.heap, slotsUsed := s₂.slotsUsed } : State) = { U.setFrames U.frames with heap := s₂.heap, slotsUsed := s₂.slotsUsed }
      rw [State.setFrames_self ht]
    subst hg
    refine Or.inl ⟨v, ⟨(({ U with heap := s₂.heap, slotsUsed := s₂.slotsUsed } : State).setVm s₂.vm), Ls ++ L, c0 + mc, s0 + ms⟩,
      ⟨X.admits, X.cas, X.clock, X.frames, X.room, X.hears, X.method, X.code, (X.here.setHeapUsed s₂.heap s₂.slotsUsed).setVm hW'.alike, X.tail, State.WarmedH.trans X.warmed hW', X.limits, X.bytes, X.same.trans (hsame.setVm s.vm)⟩,
      ⟨g, mk, s₂, L, rfl, rfl, hqc, rfl, hL, rfl, rfl⟩, ?_⟩
    show Steps p.tables e below _ ((({ U with heap := s₂.heap, slotsUsed := s₂.slotsUsed } : State).setVm s₂.vm).setTop { g with pc := g.pc + len₂, stack := v.toList ++ g.stack })
    rw [← hs₂]
    exact hsteps
  · obtain ⟨e2, q2, q3, q4, q5, q6⟩ := id hsm
    have e3 : s₂ = ({ (U.calling g mk a).setFrames s₂.frames with heap := s₂.heap, slotsUsed := s₂.slotsUsed } : State).setVm s₂.vm := by
      have : s₂ = ({ s₂ with vm := (U.calling g mk a).vm } : State).setVm s₂.vm := rfl
      rw [e2] at this
      exact this
    have hf₂ : s₂.frames = .throwing q :: .java g :: U.frames.tail := hend
    have hW' : U.WarmedH s₂.vm := hW₂
    have hs₂ : s₂ = ((({ U with heap := s₂.heap, slotsUsed := s₂.slotsUsed } : State).setVm s₂.vm).setTop g).pushFrame (.throwing q) := by
      refine e3.trans ?_
      rw [hf₂, State.calling_eq h.top, State.setFrames_setFrames, State.pushFrame, State.frames_setTop _ hr', State.setTop_of_frames _ hr', State.setFrames_setFrames, hr]
      rfl
    have hsame : U.sameButNew ({ U with heap := s₂.heap, slotsUsed := s₂.slotsUsed } : State) L mc ms := by
      refine ⟨?_, q2, q3, q4, q5, q6⟩
      obtain ⟨t, ht, -⟩ := State.frames_cons hr
      show ({ U with heap := s₂.heap, slotsUsed := s₂.slotsUsed } : State) = { U.setFrames U.frames with heap := s₂.heap, slotsUsed := s₂.slotsUsed }
      rw [State.setFrames_self ht]
    subst hg
    refine Or.inr ⟨q, ⟨(({ U with heap := s₂.heap, slotsUsed := s₂.slotsUsed } : State).setVm s₂.vm), Ls ++ L, c0 + mc, s0 + ms⟩,
      ⟨X.admits, X.cas, X.clock, X.frames, X.room, X.hears, X.method, X.code, (X.here.setHeapUsed s₂.heap s₂.slotsUsed).setVm hW'.alike, X.tail, State.WarmedH.trans X.warmed hW', X.limits, X.bytes, X.same.trans (hsame.setVm s.vm)⟩,
      ⟨g, mk, s₂, L, E, ce, rfl, rfl, hx, hce, hcv, hcl, rfl, hL, rfl, rfl⟩, ?_⟩
    show Steps p.tables e below _ (((({ U with heap := s₂.heap, slotsUsed := s₂.slotsUsed } : State).setVm s₂.vm).setTop g).pushFrame (.throwing q))
    rw [← hs₂]
    exact hsteps
end
variable {p : Program} {l : Launch} {e : Env} {R : Room} {s : State} {m : MethodId} {args : Array Value} {below : List Frame} {meth : Method} {c : Code} {T : State} {H : Heap} {locs : List Loc} {cells slots : Nat}
theorem vx_callVX (X : Stand p l e R s m args below meth c T locs cells slots) (hexec : p.tables.exec = Jvm.exec) {own C : String} {index : Nat} {y : MethodName} {bytes : ByteArray} {maxL : Nat} {ret : Option FieldType} {hh : List (Nat × Nat × Nat × Nat)}
    (hown : s.vm.findClass own = some m.cls) (hlink : (Cond.methodLink own index y).before args s = true) (hinst : (Cond.instanceMethod y).before args s = true) (hsel : (Cond.selects C y y).before args s = true)
    (hcode : (Cond.codeWith y bytes maxL ret hh).before args s = true) (hy : y.cls ≠ "java/lang/invoke/MethodHandle" ∧ y.cls ≠ "java/lang/invoke/VarHandle")
    {W9 : Nat} {Pre : Pt → Array Value → Prop} {Post : Pt → Array Value → Option Value → Pt → Prop} {PostX : Pt → Array Value → Addr → Pt → Prop} (hK : vx_Back l R p e below s args y 3 W9 Pre Post PostX)
    {b : Addr} {cellB : Cell} (hcell : T.heap[b]? = some cellB) (hobj : cellB.vm.isStatics = false) (hcls : s.vm.findClass C = some cellB.cls)
    {g : JFrame} (hg : g.method = m) (hsize : g.locals.size = c.maxLocals) {argsL rest : List Value} (hlen : ∀ sig, parseMethodDescriptor y.desc = some sig → argsL.length = sig.parameters.length)
    (hstack : g.stack = argsL.reverse ++ .ref b :: rest) (hW : 2 * g.monitorRoom + (rest.map fun v => v.category).sum ≤ W9) (hdg : decode c.code g.pc = .ok (.invokevirtual index, 3))
    (hpre : ∀ vm₁, s.WarmedH vm₁ → Pre ⟨T.setVm vm₁, locs, cells, slots⟩ (Value.ref b :: argsL).toArray) :
    (∃ (v : Option Value) (vm₁ : Vm) (B : Pt), s.WarmedH vm₁ ∧ Stand p l e R s m args below meth c B.U B.locs B.cells B.slots ∧ Post ⟨T.setVm vm₁, locs, cells, slots⟩ (Value.ref b :: argsL).toArray v B ∧
      ∀ target, Steps p.tables e below (B.U.setTop { g with pc := g.pc + 3, stack := v.toList ++ rest }) target → Steps p.tables e below (T.setTop g) target) ∨
    (∃ (q : Addr) (vm₁ : Vm) (B : Pt), s.WarmedH vm₁ ∧ Stand p l e R s m args below meth c B.U B.locs B.cells B.slots ∧ PostX ⟨T.setVm vm₁, locs, cells, slots⟩ (Value.ref b :: argsL).toArray q B ∧
      Steps p.tables e below (T.setTop g) ((B.U.setTop { g with stack := rest }).pushFrame (.throwing q))) := by
  obtain ⟨mk, methM, hnamed, hmethM, hstM, habM⟩ := Cond.instanceMethod_spec hinst
  obtain ⟨m8, methM', cM, hn8, hmethM', -, -, -, -, -, -, hsigM⟩ := Cond.codeWith_spec hcode
  cases Option.some.inj (hn8.symm.trans hnamed)
  cases hmethM.symm.trans hmethM'
  obtain ⟨c2, r2, m2, q1, q2, q3, q4, kP, hkP, hkPi⟩ := Cond.selects_spec hsel
  cases hcls.symm.trans q1
  cases (State.methodFound?_of_named hnamed hy).symm.trans q2
  cases hnamed.symm.trans q3
  have hselP : selectMethod e.platform s.vm cellB.cls mk = .method mk := by rw [Launch.admits_selectMethod X.admits]; exact q4
  obtain ⟨vm₁, X₁, hstep₁⟩ := X.invokevirtual hexec hown hlink hnamed hmethM hstM hkP hkPi hy (a := b) (cell := cellB) hcell
    (fun z h => by rw [h] at hobj; cases hobj) hselP hmethM habM hkP hkPi (g := g) hg (argsL := argsL) (rest := rest) (hlen _ hsigM) hstack hdg
  rcases hK m meth c ⟨T.setVm vm₁, locs, cells, slots⟩ { g with stack := rest } (.invokevirtual index) mk (Value.ref b :: argsL).toArray X₁ hg hsize hdg hW (X₁.named hnamed) (hpre vm₁ X₁.warmed) with ⟨v, B, X', hpost, hsteps⟩ | ⟨q, B, X', hpost, hsteps⟩
  · exact Or.inl ⟨v, vm₁, B, X₁.warmed, X', hpost, fun target h => hstep₁ _ fun acts => by rw [doInvoke_state]; exact hsteps.trans h⟩
  · exact Or.inr ⟨q, vm₁, B, X₁.warmed, X', hpost, hstep₁ _ fun acts => by rw [doInvoke_state]; exact hsteps⟩
theorem vx_callSX (X : Stand p l e R s m args below meth c T locs cells slots) (hexec : p.tables.exec = Jvm.exec) {own : String} {index : Nat} {y : MethodName} {bytes : ByteArray} {maxL : Nat} {ret : Option FieldType} {hh : List (Nat × Nat × Nat × Nat)}
    (hown : s.vm.findClass own = some m.cls) (hlink : (Cond.methodLink own index y).before args s = true) (hstat : (Cond.static y).before args s = true) (hinit : (Cond.initialized y.cls).before args s = true)
    (hcode : (Cond.codeWith y bytes maxL ret hh).before args s = true) (hy : y.cls ≠ "java/lang/invoke/MethodHandle" ∧ y.cls ≠ "java/lang/invoke/VarHandle")
    {W9 : Nat} {Pre : Pt → Array Value → Prop} {Post : Pt → Array Value → Option Value → Pt → Prop} {PostX : Pt → Array Value → Addr → Pt → Prop} (hK : vx_Back l R p e below s args y 3 W9 Pre Post PostX)
    {g : JFrame} (hg : g.method = m) (hsize : g.locals.size = c.maxLocals) {argsL rest : List Value} (hlen : ∀ sig, parseMethodDescriptor y.desc = some sig → argsL.length = sig.parameters.length)
    (hstack : g.stack = argsL.reverse ++ rest) (hW : 2 * g.monitorRoom + (rest.map fun v => v.category).sum ≤ W9) (hdg : decode c.code g.pc = .ok (.invokestatic index, 3))
    (hpre : ∀ vm₁, s.WarmedH vm₁ → Pre ⟨T.setVm vm₁, locs, cells, slots⟩ argsL.toArray) :
    (∃ (v : Option Value) (vm₁ : Vm) (B : Pt), s.WarmedH vm₁ ∧ Stand p l e R s m args below meth c B.U B.locs B.cells B.slots ∧ Post ⟨T.setVm vm₁, locs, cells, slots⟩ argsL.toArray v B ∧
      ∀ target, Steps p.tables e below (B.U.setTop { g with pc := g.pc + 3, stack := v.toList ++ rest }) target → Steps p.tables e below (T.setTop g) target) ∨
    (∃ (q : Addr) (vm₁ : Vm) (B : Pt), s.WarmedH vm₁ ∧ Stand p l e R s m args below meth c B.U B.locs B.cells B.slots ∧ PostX ⟨T.setVm vm₁, locs, cells, slots⟩ argsL.toArray q B ∧
      Steps p.tables e below (T.setTop g) ((B.U.setTop { g with stack := rest }).pushFrame (.throwing q))) := by
  obtain ⟨mk, methM, cM, hnamed, hmethM, -, -, -, -, -, -, hsigM⟩ := Cond.codeWith_spec hcode
  have hstatic : methM.isStatic = true := Cond.static_spec hnamed hmethM hstat
  obtain ⟨kP, hkP, -⟩ := className_of_methodNamed hnamed
  have hinitP : kP.init = .initialized := Cond.initialized_spec (findClass_of_methodNamed hnamed) hkP hinit
  obtain ⟨vm₁, X₁, hstep₁⟩ := X.invokestatic hexec hown hlink hnamed hmethM hstatic hkP hinitP hy (g := g) hg (argsL := argsL) (rest := rest) (hlen _ hsigM) hstack hdg
  rcases hK m meth c ⟨T.setVm vm₁, locs, cells, slots⟩ { g with stack := rest } (.invokestatic index) mk argsL.toArray X₁ hg hsize hdg hW (X₁.named hnamed) (hpre vm₁ X₁.warmed) with ⟨v, B, X', hpost, hsteps⟩ | ⟨q, B, X', hpost, hsteps⟩
  · exact Or.inl ⟨v, vm₁, B, X₁.warmed, X', hpost, fun target h => hstep₁ _ fun acts => by rw [doInvoke_state]; exact hsteps.trans h⟩
  · exact Or.inr ⟨q, vm₁, B, X₁.warmed, X', hpost, hstep₁ _ fun acts => by rw [doInvoke_state]; exact hsteps⟩
theorem vx_callVW (X : Stand p l e R s m args below meth c T locs cells slots) (hexec : p.tables.exec = Jvm.exec) {own C : String} {index : Nat} {y : MethodName} {bytes : ByteArray} {maxL : Nat} {ret : Option FieldType} {hh : List (Nat × Nat × Nat × Nat)}
    (hown : s.vm.findClass own = some m.cls) (hlink : (Cond.methodLink own index y).before args s = true) (hinst : (Cond.instanceMethod y).before args s = true) (hsel : (Cond.selects C y y).before args s = true)
    (hcode : (Cond.codeWith y bytes maxL ret hh).before args s = true) (hy : y.cls ≠ "java/lang/invoke/MethodHandle" ∧ y.cls ≠ "java/lang/invoke/VarHandle")
    {W9 : Nat} {Pre : Pt → Array Value → Prop} {Post : Pt → Array Value → Option Value → Pt → Prop} (hK : Back l R p e below s args y 3 W9 Pre Post)
    {b : Addr} {cellB : Cell} (hcell : T.heap[b]? = some cellB) (hobj : cellB.vm.isStatics = false) (hcls : s.vm.findClass C = some cellB.cls)
    {g : JFrame} (hg : g.method = m) (hsize : g.locals.size = c.maxLocals) {argsL rest : List Value} (hlen : ∀ sig, parseMethodDescriptor y.desc = some sig → argsL.length = sig.parameters.length)
    (hstack : g.stack = argsL.reverse ++ .ref b :: rest) (hW : 2 * g.monitorRoom + (rest.map fun v => v.category).sum ≤ W9) (hdg : decode c.code g.pc = .ok (.invokevirtual index, 3))
    (hpre : ∀ vm₁, s.WarmedH vm₁ → Pre ⟨T.setVm vm₁, locs, cells, slots⟩ (Value.ref b :: argsL).toArray) :
    ∃ (v : Option Value) (vm₁ : Vm) (B : Pt), s.WarmedH vm₁ ∧ Stand p l e R s m args below meth c B.U B.locs B.cells B.slots ∧ Post ⟨T.setVm vm₁, locs, cells, slots⟩ (Value.ref b :: argsL).toArray v B ∧
      ∀ target, Steps p.tables e below (B.U.setTop { g with pc := g.pc + 3, stack := v.toList ++ rest }) target → Steps p.tables e below (T.setTop g) target := by
  obtain ⟨mk, methM, hnamed, hmethM, hstM, habM⟩ := Cond.instanceMethod_spec hinst
  obtain ⟨m8, methM', cM, hn8, hmethM', -, -, -, -, -, -, hsigM⟩ := Cond.codeWith_spec hcode
  cases Option.some.inj (hn8.symm.trans hnamed)
  cases hmethM.symm.trans hmethM'
  obtain ⟨c2, r2, m2, q1, q2, q3, q4, kP, hkP, hkPi⟩ := Cond.selects_spec hsel
  cases hcls.symm.trans q1
  cases (State.methodFound?_of_named hnamed hy).symm.trans q2
  cases hnamed.symm.trans q3
  have hselP : selectMethod e.platform s.vm cellB.cls mk = .method mk := by rw [Launch.admits_selectMethod X.admits]; exact q4
  obtain ⟨vm₁, X₁, hstep₁⟩ := X.invokevirtual hexec hown hlink hnamed hmethM hstM hkP hkPi hy (a := b) (cell := cellB) hcell
    (fun z h => by rw [h] at hobj; cases hobj) hselP hmethM habM hkP hkPi (g := g) hg (argsL := argsL) (rest := rest) (hlen _ hsigM) hstack hdg
  obtain ⟨v, B, X', hpost, hsteps⟩ := hK m meth c ⟨T.setVm vm₁, locs, cells, slots⟩ { g with stack := rest } (.invokevirtual index) mk (Value.ref b :: argsL).toArray X₁ hg hsize hdg hW (X₁.named hnamed) (hpre vm₁ X₁.warmed)
  exact ⟨v, vm₁, B, X₁.warmed, X', hpost, fun target h => hstep₁ _ fun acts => by rw [doInvoke_state]; exact hsteps.trans h⟩
abbrev vx_CVW (R : Room) (s : State) (args : Array Value) (own C : String) (index : Nat) (y : MethodName) (bytes : ByteArray) (maxL : Nat) (ret : Option FieldType) (hh : List (Nat × Nat × Nat × Nat)) (ws : List Cond) (rm : Room) (mc ms n : Nat) : Prop :=
  (rm.cells = mc ∧ rm.slots = ms ∧ rm.frames + 1 ≤ R.frames ∧ 8 + (maxL + 11) + rm.locals ≤ R.locals ∧ (∀ w ∈ ws, ∀ (a' : Array Value) (U : State), s.WarmedH U.vm → w.before a' U = true) ∧ Cond.codeWith y bytes maxL ret hh ∈ ws) ∧
  (Cond.codeWith y bytes maxL ret hh).before args s = true ∧ (Cond.initialized y.cls).before args s = true ∧ (y.cls ≠ "java/lang/invoke/MethodHandle" ∧ y.cls ≠ "java/lang/invoke/VarHandle") ∧
  (∀ sig, parseMethodDescriptor y.desc = some sig → n = sig.parameters.length) ∧ (Cond.methodLink own index y).before args s = true ∧ (Cond.instanceMethod y).before args s = true ∧ (Cond.selects C y y).before args s = true
theorem vx_cwVW {own C : String} {index maxL mc ms : Nat} {y : MethodName} {bytes : ByteArray} {ret : Option FieldType} {hh : List (Nat × Nat × Nat × Nat)} {Ts ws ws' : List Cond} {rm : Room} (n : Nat) (ht : ∀ w ∈ Ts, w.before args s = true) (hT : GoodIn Ts (wsV own index C y ws)) (hw : ws = Cond.codeWith y bytes maxL ret hh :: ws') (hrc : rm.cells = mc) (hrs : rm.slots = ms)
    (hd : y.cls = C ∧ y.cls ≠ "java/lang/invoke/MethodHandle" ∧ y.cls ≠ "java/lang/invoke/VarHandle" ∧ (parseMethodDescriptor y.desc).map (fun d => d.parameters.length) = some n) (hR : rm.frames + 1 ≤ R.frames ∧ 8 + (maxL + 11) + rm.locals ≤ R.locals) :
    vx_CVW R s args own C index y bytes maxL ret hh ws rm mc ms n := by
  obtain ⟨hC, hd⟩ := hd
  subst hC
  have ok : ∀ w ∈ wsV own index y.cls y ws, w.before args s = true := fun w h => ht w (hT w h).1
  have hG : GoodIn Ts ws := fun w h => hT w (by unfold wsV; exact List.mem_append_right _ h)
  have hc : Cond.codeWith y bytes maxL ret hh ∈ ws := by rw [hw]; exact List.mem_cons_self
  refine ⟨⟨hrc, hrs, hR.1, hR.2, pay_in ht hG, hc⟩, ht _ (hG _ hc).1, ok _ (by simp [wsV]), ⟨hd.1, hd.2.1⟩, fun sig h => ?_, ok _ (by simp [wsV]), ok _ (by simp [wsV]), ok _ (by simp [wsV])⟩
  have h2 := hd.2.2
  rw [h] at h2
  exact (Option.some.inj h2).symm
theorem vx_runVW {y : MethodName} {bytes cc : ByteArray} {maxL nL mc ms n index : Nat} {ret : Option FieldType} {hh : List (Nat × Nat × Nat × Nat)} {ws : List Cond} {rm : Room} {Pc : Array Value → State → Prop} {Qc : Array Value → State → Outcome → State → Prop} {free : Addr → Prop} {Ts : List Cond} {own C : String} {b : Addr} {As rest : List Value} {g : JFrame}
    (S : CallFix p m c cc nL s args Ts own) (hM : Met l y ws rm Pc Qc mc ms free) (cw : vx_CVW R s args own C index y bytes maxL ret hh ws rm mc ms n) (hp : PreV s H C b Pc As)
    (hg : g.method = m) (hn : As.length = n) (hsize : g.locals.size = nL) (hstack : g.stack = As.reverse ++ .ref b :: rest) (hW : 2 * g.monitorRoom + (rest.map fun v => v.category).sum ≤ 8) (hdg : decode cc g.pc = .ok (.invokevirtual index, 3)) (hf : cells + mc ≤ R.cells ∧ slots + ms ≤ R.slots) :
    va_Run p l e R s m args below meth c H locs cells slots mc ms g rest (Qc (Value.ref b :: As).toArray) free := by
  obtain ⟨⟨hrc, hrs, hfr, hlo, hws, hcw⟩, hcode, hini, hy, hlen, hl, hin, hse⟩ := cw
  have hK : Back l R p e below s args y 3 8 (PreOf R mc ms Pc) (PostOf Qc mc ms free) := va_backW (hh := hh) (bytes := bytes) (maxL := maxL) (ret := ret) hM hp.1 hrc hrs hfr hlo hws hcw (fun a' U hW => word_at hW (Or.inl (by first | rfl | simp [Cond.onTables, Cond.keeps, Cond.steady])) hini)
  obtain ⟨hx, hb, hml, ho, -⟩ := S
  obtain ⟨-, ⟨cellB, hcB, hoB, hclB⟩, hPc⟩ := hp
  intro T hT X
  obtain ⟨v, vm₁, ⟨U', l2, c2, s2⟩, hW₁, X', ⟨g', mk, t, L, e1, e2, hq, h1, hL, h2, h3⟩, st⟩ := vx_callVW X hx (C := C) (hh := hh) (bytes := bytes) (maxL := maxL) (ret := ret) ho hl hin hse hcode hy hK (by rw [hT]; exact hcB) hoB hclB hg (hsize.trans hml.symm) (argsL := As) (rest := rest) (fun sig h => hn.trans (hlen sig h)) hstack hW (by rw [hb]; exact hdg)
    (fun vm₁ hW₁ => ⟨hf.1, hf.2, hPc (T.setVm vm₁) hT hW₁⟩)
  dsimp only [Pt.U, Pt.locs, Pt.cells, Pt.slots] at X' e1 e2 h1 h2 h3 st
  subst h1; subst h2; subst h3
  exact ⟨v, (T.setVm vm₁).calling g' mk (Value.ref b :: As).toArray, t, U', L, hT, X', hL, e1, e2, hq, st⟩
section
variable {y : MethodName} {bytes cc : ByteArray} {maxL nL mc ms n index : Nat} {ret : Option FieldType} {ws : List Cond} {rm : Room} {Pc : Array Value → State → Prop} {Qc : Array Value → State → Outcome → State → Prop} {XC : String → State → State → Prop} {free : Addr → Prop} {Ts : List Cond} {own C : String} {b : Addr} {As rest : List Value} {g : JFrame}
theorem vx_runVX {hh : List (Nat × Nat × Nat × Nat)} (S : CallFix p m c cc nL s args Ts own) (hM : vx_Met l y ws rm Pc Qc XC mc ms free) (cw : vx_CVW R s args own C index y bytes maxL ret hh ws rm mc ms n) (hp : PreV s H C b Pc As)
    (hg : g.method = m) (hn : As.length = n) (hsize : g.locals.size = nL) (hstack : g.stack = As.reverse ++ .ref b :: rest) (hW : 2 * g.monitorRoom + (rest.map fun v => v.category).sum ≤ 8) (hdg : decode cc g.pc = .ok (.invokevirtual index, 3)) (hf : cells + mc ≤ R.cells ∧ slots + ms ≤ R.slots) :
    vx_Run p l e R s m args below meth c H locs cells slots mc ms g rest (Qc (Value.ref b :: As).toArray) XC free := by
  obtain ⟨⟨hrc, hrs, hfr, hlo, hws, hcw⟩, hcode, hini, hy, hlen, hl, hin, hse⟩ := cw
  have hK : vx_Back l R p e below s args y 3 8 (PreOf R mc ms Pc) (PostOf Qc mc ms free) (vx_Post XC mc ms free) := vx_backW (hh := hh) (bytes := bytes) (maxL := maxL) (ret := ret) hM hp.1 hrc hrs hfr hlo hws hcw (fun a' U hW => word_at hW (Or.inl (by first | rfl | simp [Cond.onTables, Cond.keeps, Cond.steady])) hini)
  obtain ⟨hx, hb, hml, ho, -⟩ := S
  obtain ⟨-, ⟨cellB, hcB, hoB, hclB⟩, hPc⟩ := hp
  intro T hT X
  rcases vx_callVX X hx (C := C) (hh := hh) (bytes := bytes) (maxL := maxL) (ret := ret) ho hl hin hse hcode hy hK (by rw [hT]; exact hcB) hoB hclB hg (hsize.trans hml.symm) (argsL := As) (rest := rest) (fun sig h => hn.trans (hlen sig h)) hstack hW (by rw [hb]; exact hdg)
    (fun vm₁ hW₁ => ⟨hf.1, hf.2, hPc (T.setVm vm₁) hT hW₁⟩) with ⟨v, vm₁, ⟨U', l2, c2, s2⟩, hW₁, X', ⟨g', mk, t, L, e1, e2, hq, h1, hL, h2, h3⟩, st⟩ | ⟨q, vm₁, ⟨U', l2, c2, s2⟩, hW₁, X', ⟨g', mk, t, L, E, ce, e1, e2, hq, hce, hcv, hcl, h1, hL, h2, h3⟩, st⟩
  · dsimp only [Pt.U, Pt.locs, Pt.cells, Pt.slots] at X' e1 e2 h1 h2 h3 st
    subst h1; subst h2; subst h3
    exact Or.inl ⟨v, (T.setVm vm₁).calling g' mk (Value.ref b :: As).toArray, t, U', L, hT, X', hL, e1, e2, hq, st⟩
  · dsimp only [Pt.U, Pt.locs, Pt.cells, Pt.slots] at X' e1 e2 h1 h2 h3 st hcl
    subst h1; subst h2; subst h3
    exact Or.inr ⟨q, (T.setVm vm₁).calling g' mk (Value.ref b :: As).toArray, t, U', L, E, ce, hT, X', hL, e1, e2, hq, hce, hcv, vx_cls hW₁ hcl, st⟩
theorem vx_runSX {hh : List (Nat × Nat × Nat × Nat)} (S : CallFix p m c cc nL s args Ts own) (hM : vx_Met l y ws rm Pc Qc XC mc ms free) (cw : vx_CSW R s args own index y bytes maxL ret hh ws rm mc ms n) (hp : PreS s H Pc As)
    (hg : g.method = m) (hn : As.length = n) (hsize : g.locals.size = nL) (hstack : g.stack = As.reverse ++ rest) (hW : 2 * g.monitorRoom + (rest.map fun v => v.category).sum ≤ 8) (hdg : decode cc g.pc = .ok (.invokestatic index, 3)) (hf : cells + mc ≤ R.cells ∧ slots + ms ≤ R.slots) :
    vx_Run p l e R s m args below meth c H locs cells slots mc ms g rest (Qc As.toArray) XC free := by
  obtain ⟨⟨hrc, hrs, hfr, hlo, hws, hcw⟩, hcode, hini, hy, hlen, hl, hstt⟩ := cw
  have hK : vx_Back l R p e below s args y 3 8 (PreOf R mc ms Pc) (PostOf Qc mc ms free) (vx_Post XC mc ms free) := vx_backW (hh := hh) (bytes := bytes) (maxL := maxL) (ret := ret) hM hp.1 hrc hrs hfr hlo hws hcw (fun a' U hW => word_at hW (Or.inl (by first | rfl | simp [Cond.onTables, Cond.keeps, Cond.steady])) hini)
  obtain ⟨hx, hb, hml, ho, -⟩ := S
  intro T hT X
  rcases vx_callSX X hx (hh := hh) (bytes := bytes) (maxL := maxL) (ret := ret) ho hl hstt hini hcode hy hK hg (hsize.trans hml.symm) (argsL := As) (rest := rest) (fun sig h => hn.trans (hlen sig h)) hstack hW (by rw [hb]; exact hdg)
    (fun vm₁ hW₁ => ⟨hf.1, hf.2, hp.2 (T.setVm vm₁) hT hW₁⟩) with ⟨v, vm₁, ⟨U', l2, c2, s2⟩, hW₁, X', ⟨g', mk, t, L, e1, e2, hq, h1, hL, h2, h3⟩, st⟩ | ⟨q, vm₁, ⟨U', l2, c2, s2⟩, hW₁, X', ⟨g', mk, t, L, E, ce, e1, e2, hq, hce, hcv, hcl, h1, hL, h2, h3⟩, st⟩
  · dsimp only [Pt.U, Pt.locs, Pt.cells, Pt.slots] at X' e1 e2 h1 h2 h3 st
    subst h1; subst h2; subst h3
    exact Or.inl ⟨v, (T.setVm vm₁).calling g' mk As.toArray, t, U', L, hT, X', hL, e1, e2, hq, st⟩
  · dsimp only [Pt.U, Pt.locs, Pt.cells, Pt.slots] at X' e1 e2 h1 h2 h3 st hcl
    subst h1; subst h2; subst h3
    exact Or.inr ⟨q, (T.setVm vm₁).calling g' mk As.toArray, t, U', L, E, ce, hT, X', hL, e1, e2, hq, hce, hcv, vx_cls hW₁ hcl, st⟩
end
end VXH
theorem vx_ofWH {l : Launch} {y : MethodName} {ws ws' : List Cond} {rm : Room} {Pc : Array Value → State → Prop} {Qc : Array Value → State → Outcome → State → Prop} {XC : String → State → State → Prop} {mc ms : Nat} {free : Addr → Prop} {cc : ByteArray} {maxL : Nat} {ret : Option FieldType} {hh : List (Nat × Nat × Nat × Nat)}
    (hy : plainName y.cls = true) (hw : ws = Cond.codeWith y cc maxL ret hh :: ws')
    (body : ∀ p e s m args below meth c s₁, BodyLoose p l y (headSpec ws rm) cc maxL ret e s m args below meth c s₁ → c.maxLocals = maxL → Pc args s →
      W p l e (headSpec ws rm).room s m args below meth c s.heap [] 0 0 (vx_MQ below Qc XC args s mc ms free) (entryFrame m args maxL)) : vx_Met l y ws rm Pc Qc XC mc ms free := by
  refine MetFree.of_bodyS (code := cc) (maxLocals := maxL) (ret := ret) hy ?_ ?_
  · intro args s m h hn
    obtain ⟨m9, meth, c, hn9, h1, h2, h3, h4, -, h5, h6, -⟩ := Cond.codeWith_spec (atoms_spec (ws := ws) h _ (by rw [hw]; exact List.mem_cons_self))
    cases hn.symm.trans hn9
    exact ⟨meth, c, h1, h2, h3, h4, h5, h6⟩
  · intro p e s m args below meth c s₁ B hml hP _
    have hh0 : s₁.heap = s.heap := by rw [B.state]; rfl
    obtain ⟨t, a1, o, b1, b2, b3⟩ := body p e s m args below meth c s₁ B hml hP s₁ hh0 (Stand.of_body B)
    exact ⟨t, o, a1, b1, b2, b3⟩
/-! ===== END ===== -/
/-! ===== BEGIN what the machine throws by itself, no traces kept ===== -/
section VXM
set_option maxHeartbeats 1000000 in
/-- the machine throws cls with the message text, no traces kept: from its note over the frame g to 'throwing' over the same frame (follows the proofs of Stand.vmThrowsMessage, Shelf/KitTracedVmS.lean, and Stand.throwsMessageColdBareV, StandMessageColdV.lean, without the step out of the frame) -/
theorem vx_vmAt {p : Program} {l : Launch} {e : Env} {R : Room} {s : State} {m₀ : MethodId} {args : Array Value} {below : List Frame} {meth : Method} {c : Code} {W : State} {locs : List Loc} {cells slots : Nat}
    (X : Stand p l e R s m₀ args below meth c W locs cells slots) (hexec : p.tables.exec = Jvm.exec) (htr : e.platform.stackTraces = false) {cls : String} {names : List String} {text : String}
    (hcls : Bundle.fit cls = true) (hnames : ∀ n ∈ names, Bundle.fit n = true) (hsoe : (cls == "java/lang/StackOverflowError") = false) (hoom : (cls == "java/lang/OutOfMemoryError") = false)
    (h : ∀ a ∈ Bundle.messageArmAtoms cls names, a.before args s = true)
    (hlocs : ∀ x ∈ locs, ∀ cell, s.heap[x.base]? = some cell → cell.vm.isStatics = false)
    (htext : (text == notModelled) = false) (hlimit : ¬ (stringBytes (stringToUtf16 text)).size > e.platform.arrayLengthLimit) (hheap : ¬ (stringBytes (stringToUtf16 text)).size * componentBytes .byte > e.platform.maxHeapBytes)
    {g : JFrame} (hg : g.method = m₀) (hsize : g.locals.size = c.maxLocals)
    (hRframes : names.length + 4 < R.frames) (hRlocals : 2 * g.monitorRoom + (g.stack.map fun v => v.category).sum + 10240 ≤ R.locals) (hshort : 13 * names.length + 55 ≤ 10240)
    (hRcells : cells + 3 ≤ R.cells) (hRslots : slots + ((stringBytes (stringToUtf16 text)).size + 4 + 6) ≤ R.slots) (hlocks : meth.locks = false) :
    ∃ (S : State) (q : Addr) (ce : Cell), (∀ target, Steps p.tables e below ((S.setTop g).pushFrame (.throwing q)) target → Steps p.tables e below ((W.setTop g).pushFrame (.throwNew cls (some text) none)) target) ∧
      Stand p l e R s m₀ args below meth c S locs (cells + 3) (slots + ((stringBytes (stringToUtf16 text)).size + 4 + 6)) ∧ S.heap[q]? = some ce ∧ s.vm.findClass cls = some ce.cls ∧ ce.vm = .none := by
  have howns : e.platform.frameOwnsMonitors = true := by rw [X.admits.platform]
  have hfin : e.platform.finalization = false := by rw [X.admits.platform]
  have hpl : e.platform.magicAccessors = ({} : Platform).magicAccessors := by rw [X.admits.platform]
  have a : ∀ x, x ∈ Bundle.messageArmAtoms cls names → x.holds args s none s [] = true := fun x hx => h x hx
  obtain ⟨T, Z0, L, -, Y⟩ := ThrowableC.of_atoms (args := args) howns hfin hpl (fun x hx => h x (by simp [Bundle.messageArmAtoms, hx]))
  obtain ⟨Z, M, LZ, LM, hnZ⟩ := Init0T.ofS_atoms (args := args) hpl L Y (fun x hx => h x (by simp [Bundle.messageArmAtoms, hx]))
  obtain ⟨P1, Ps, hlen, L1, hL, hP1m, hlink1, hlink⟩ := Bundle.chainS (args := args) hpl hnZ names cls hcls hnames (fun x hx => h x (by simp [Bundle.messageArmAtoms, hx]))
  obtain ⟨Zs, LZs, hn4, hfitv, hfitc⟩ := StringT.of_atoms (args := args) (fun x hx => h x (by simp [Bundle.messageArmAtoms, hx]))
  have hfound : s.vm.findClass cls = some P1.m.cls := findClass_of_methodNamed hP1m
  obtain ⟨c1, kX, hc1, hk, hord, -, -, hn6⟩ := Cond.instantiable_spec (a (.instantiable cls 6) (by simp [Bundle.messageArmAtoms]))
  cases Option.some.inj (hc1.symm.trans hfound)
  have hinit := Cond.initialized_spec hfound hk (a (.initialized cls) (by simp [Bundle.messageArmAtoms]))
  have hctor : kX.findMethod "<init>" "(Ljava/lang/String;)V" = some P1.m.idx := findMethod_of_methodNamed hP1m hk
  have hsel0 : selectMethod e.platform s.vm P1.m.cls T.fill0 = .method T.fill0 := by
    obtain ⟨c2, r2, m2, q1, q2, q3, q4, -⟩ := Cond.selects_spec (a (.selects cls Bundle.tFill0 Bundle.tFill0) (by simp [Bundle.messageArmAtoms]))
    cases Option.some.inj (q1.symm.trans hfound)
    cases Option.some.inj (q2.symm.trans (State.methodFound?_of_named Y.fill0 (by decide)))
    cases Option.some.inj (q3.symm.trans Y.fill0)
    rw [Launch.admits_selectMethod X.admits]; exact q4
  have hselF : selectMethod e.platform s.vm P1.m.cls T.fill = .method T.fill := by
    obtain ⟨c2, r2, m2, q1, q2, q3, q4, -⟩ := Cond.selects_spec (a (.selects cls Bundle.tFill Bundle.tFill) (by simp [Bundle.messageArmAtoms]))
    cases Option.some.inj (q1.symm.trans hfound)
    cases Option.some.inj (q2.symm.trans (State.methodFound?_of_named Y.fill (by decide)))
    cases Option.some.inj (q3.symm.trans Y.fill)
    rw [Launch.admits_selectMethod X.admits]; exact q4
  obtain ⟨cellS0, hcS0, hiss⟩ := Y.statics
  obtain ⟨u0, hu0⟩ := Cond.staticRefV Y.unassigned L.unassignedStatic L.statics hcS0 hiss (a (.isRef (.static Bundle.tN "UNASSIGNED_STACK" Bundle.steD)) (by simp [Bundle.messageArmAtoms]))
  obtain ⟨sen, hsen⟩ := Cond.staticRefV Y.sentinel L.sentinelStatic L.statics hcS0 hiss (a (.isRef (.static Bundle.tN "SUPPRESSED_SENTINEL" Bundle.listD)) (by simp [Bundle.messageArmAtoms]))
  obtain ⟨ci198, i198, fB, hk198, hg198, ha198, hsB, -, hnB, htB, hffB⟩ := Cond.ownField (t := .object "java/lang/Object") Y.found L.cls (by decide +kernel) (a (.fieldLink Bundle.tN 198 Bundle.tN "backtrace" "Ljava/lang/Object;") (by simp [Bundle.messageArmAtoms])) (a (.lays Bundle.tN Bundle.tN "backtrace" "Ljava/lang/Object;") (by simp [Bundle.messageArmAtoms])) e.platform hpl
  obtain ⟨cellS, hcS', heS, -, hkeep⟩ := X.same.2.2.2.2.2 T.aS cellS0 hcS0
  have hcellS : W.heap[T.aS]? = some cellS := hcS'
  have hout' : ∀ i, (⟨T.aS, i⟩ : Loc) ∉ locs := fun i hmem => by
    have := hlocs _ hmem cellS0 hcS0
    rw [hiss] at this; cases this
  have hknownS : cellS.vm ≠ .unknown := by
    rw [heS]; intro hu
    rw [show cellS0.vm = .unknown from hu] at hiss
    cases hiss
  have hvU : cellS.slots[T.fUnassigned.slot]? = some u0.v := by rw [hkeep _ (hout' _)]; exact hu0
  have hvSen : cellS.slots[T.fSentinel.slot]? = some sen.v := by rw [hkeep _ (hout' _)]; exact hsen
  obtain ⟨iM, hffM⟩ := Y.msg
  obtain ⟨tyC, dC, hdC, hdnC⟩ := Cond.laysAt hfound hk Y.cause (a (.lays cls Bundle.tN "cause" "Ljava/lang/Throwable;") (by simp [Bundle.messageArmAtoms]))
  obtain ⟨tyS, dS, hdS, hdnS⟩ := Cond.laysAt hfound hk Y.stack (a (.lays cls Bundle.tN "stackTrace" Bundle.steD) (by simp [Bundle.messageArmAtoms]))
  obtain ⟨tyP, dP, hdP, hdnP⟩ := Cond.laysAt hfound hk Y.supp (a (.lays cls Bundle.tN "suppressedExceptions" Bundle.listD) (by simp [Bundle.messageArmAtoms]))
  obtain ⟨tyM, dM, hdM, hdnM⟩ := Cond.laysAt hfound hk hffM (a (.lays cls Bundle.tN "detailMessage" "Ljava/lang/String;") (by simp [Bundle.messageArmAtoms]))
  obtain ⟨tyB, dB, hdB, hdnB⟩ := Cond.laysAt hfound hk hffB (a (.lays cls Bundle.tN "backtrace" "Ljava/lang/Object;") (by simp [Bundle.messageArmAtoms]))
  have bC := Cond.laysApart hdB hdC hdnB hdnC (by rw [hnB, Y.causeName]; decide)
  have bS := Cond.laysApart hdB hdS hdnB hdnS (by rw [hnB, Y.stackName]; decide)
  have bP := Cond.laysApart hdB hdP hdnB hdnP (by rw [hnB, Y.suppName]; decide)
  have hbk : ((preparedCellV T.toThrowableT (freshCell P1.m.cls kX) (W.heap.size + 2) u0 sen).withEntry W.cur).slots[fB.slot]? = some .null := by
    have := fresh_default (c := P1.m.cls) tyB
    rw [htB] at this
    simpa [preparedCellV, Cell.setSlot, Cell.withEntry, Array.getElem?_setIfInBounds, bC, bS, bP, bC.symm, bS.symm, bP.symm, defaultValue] using this
  have tkC := Takes.of_laid (v := .ref (W.heap.size + 2)) hk hord tyC (by rw [Y.causeType]; rfl)
  have tkS := Takes.of_laid (v := u0.v) hk hord tyS (by rw [Y.stackType]; exact fits_refV_array _ u0)
  have tkP := Takes.of_laid (v := sen.v) hk hord tyP (by rw [Y.suppType]; exact fits_refV_object _ sen)
  have tkM := Takes.of_laid (v := .ref (W.heap.size + 1)) hk hord tyM (by rw [Y.msgType]; rfl)
  have hskip : SkipFacts T e.platform s (fun u => u) u0 ((preparedCellV T.toThrowableT (freshCell P1.m.cls kX) (W.heap.size + 2) u0 sen).withEntry W.cur) := ⟨{ ci198 := ci198, i198 := i198, fBack := fB }, ⟨hk198, hg198, ha198, hsB⟩, hbk, fun _ _ => rfl⟩
  have h0 : At W g.method c below := by rw [hg]; exact X.here
  obtain ⟨hbeyond, hfreeW⟩ := X.vmMayThrow hsize (.throwNew cls (some text) none) (fun f hf => by cases hf) rfl hRlocals
  have hfr' : W.frames.length + Ps.length + 4 < (e.platform.stackLimits W.me).1 := by have := X.framesAbove hRframes; omega
  have hwd' : (stackUse (.java g :: W.frames.tail)).2 + 13 * Ps.length + 55 ≤ (e.platform.stackLimits W.me).2 := by have := X.stackAbove hsize (K := 13 * Ps.length + 55) (by omega); omega
  have hslots : W.slotsUsed + (stringBytes (stringToUtf16 text)).size + Zs.kS.instanceTypes.size + kX.instanceTypes.size ≤ e.platform.maxSlots := by
    have := X.slotsAbove hRslots
    rw [hn4, hn6]
    omega
  obtain ⟨vm', hW', st⟩ := Steps.vmThrowsMessageColdByV p (s₀ := s) (S := W) (g := g) h0 hexec T L Z LZ M LM X.warmed (t := W.cur) rfl Zs LZs P1 L1 Ps hL hlink1 hlink hsoe hoom hfound hk hinit hord hctor
    (Launch.admits_hotImplicitExceptions X.admits) hbeyond hfreeW htext hlimit hheap (X.cellsAbove hRcells) hslots (hfitv _) (hfitc _)
    (Nn := fun u => u) heapOnly_id (fun _ _ => rfl) (fun _ => rfl) (fun u x y => setCell_twice _ _ _ _) (fun _ => Nat.le_refl _) (cN := ((preparedCellV T.toThrowableT (freshCell P1.m.cls kX) (W.heap.size + 2) u0 sen).withEntry W.cur))
    hsel0 hcellS hknownS hvU tkS (fun _ hu => hu) (fun _ hu => hu) rfl rfl rfl (by simp [preparedCellV, Cell.setSlot, Cell.withEntry]) hskip (fun _ _ hA hW _ hroom _ hrest => L.nativeOff p htr hA hW hroom hrest) hselF hvSen tkC tkP tkM Y.objLocals rfl hfr' hwd'
  rw [plainBareV_eq T.toThrowableT (W.heap.size + 2) u0 sen (.ref (W.heap.size + 1)) W.cur rfl rfl] at st
  obtain ⟨-, -, w3, w4, -, -, -⟩ := withThrown_facts e.platform W Zs text P1.m.cls kX
  have X3 := ((X.pushed (bytesOf Zs.cB (stringToUtf16 text))).pushed (stringAt Zs.cS Zs.kS Zs.fv Zs.fc (stringToUtf16 text) W.heap.size)).pushed (freshCell P1.m.cls kX)
  rw [← withString_eq] at X3
  have X4 := X3.noted hW'
  have ha : (W.heap.size + 2) < ((withThrown W Zs text P1.m.cls kX).setVm vm').heap.size := by show _ < (withThrown W Zs text P1.m.cls kX).heap.size; rw [w3]; omega
  have hcell : ((withThrown W Zs text P1.m.cls kX).setVm vm').heap[(W.heap.size + 2)]? = some (freshCell P1.m.cls kX) := w4
  have X5 := ((((X4.stored hcell T.fCause.slot (.ref (W.heap.size + 2))).storedAgain ha T.fStack.slot u0.v).storedAgain ha T.fSupp.slot sen.v).storedAgain ha T.fStack.slot u0.v).storedAgain ha T.fMsg.slot (.ref (W.heap.size + 1))
  obtain ⟨g₁, hfrM⟩ := X5.frames_eq
  have hU : ((((withThrown W Zs text P1.m.cls kX).setVm vm').setCell (W.heap.size + 2) (plainBareV T.toThrowableT (freshCell P1.m.cls kX) (W.heap.size + 2) u0 sen (.ref (W.heap.size + 1)))).setTop g).pushFrame (.throwing (W.heap.size + 2)) = (((withThrown W Zs text P1.m.cls kX).setVm vm').setCell (W.heap.size + 2) (plainBareV T.toThrowableT (freshCell P1.m.cls kX) (W.heap.size + 2) u0 sen (.ref (W.heap.size + 1)))).setFrames (.throwing (W.heap.size + 2) :: .java g :: below) := by
    rw [State.pushFrame, State.frames_setTop _ hfrM, State.setTop_of_frames _ hfrM, State.setFrames_setFrames]
  have b1 : (bytesOf Zs.cB (stringToUtf16 text)).slots.size = (stringBytes (stringToUtf16 text)).size := by
    rw [(Cell.writeAll_facts _ _).2.2]; simp [bytes0]
  have b2 : (stringAt Zs.cS Zs.kS Zs.fv Zs.fc (stringToUtf16 text) W.heap.size).slots.size = 4 := by simp [string0, Cell.setSlot, hn4]
  have b3 : (freshCell P1.m.cls kX).slots.size = 6 := by simp [hn6]
  rw [b1, b2, b3] at X5
  have e9 : slots + (stringBytes (stringToUtf16 text)).size + 4 + 6 = slots + ((stringBytes (stringToUtf16 text)).size + 4 + 6) := by omega
  rw [e9] at X5
  simp only [List.append_assoc, List.cons_append, List.nil_append] at X5
  refine ⟨((withThrown W Zs text P1.m.cls kX).setVm vm').setCell (W.heap.size + 2) (plainBareV T.toThrowableT (freshCell P1.m.cls kX) (W.heap.size + 2) u0 sen (.ref (W.heap.size + 1))), W.heap.size + 2, _, fun target ht => st _ (by rw [X.tail, ← hU]; exact ht),
    X5.forget (fun y hy => ?_), heapAt_setCell_self _ ha, hfound, rfl⟩
  simp only [List.mem_cons, List.not_mem_nil, or_false] at hy
  have hge : s.heap.size ≤ W.heap.size := X.same.2.1
  rcases hy with rfl | rfl | rfl | rfl | rfl <;> exact Nat.le_trans hge (Nat.le_add_right _ 2)
set_option maxHeartbeats 1000000 in
/-- the machine throws NullPointerException, no traces kept: from its note over the frame g to 'throwing' over the same frame (follows the proof of Stand.vmThrowsNpe, Shelf42/KT2.lean; throwsNpeColdBareVAt, Shelf42/NT91.lean, called) -/
theorem vx_npeAt {p : Program} {l : Launch} {e : Env} {R : Room} {s : State} {m₀ : MethodId} {args : Array Value} {below : List Frame} {meth : Method} {c : Code} {W : State} {locs : List Loc} {cells slots : Nat}
    (X : Stand p l e R s m₀ args below meth c W locs cells slots) (hexec : p.tables.exec = Jvm.exec) (htr : e.platform.stackTraces = false) {n : Nat}
    (h : ∀ a ∈ Bundle.npeArmAtoms n, a.before args s = true)
    (hlocs : ∀ x ∈ locs, ∀ cell, s.heap[x.base]? = some cell → cell.vm.isStatics = false)
    {g : JFrame} (hg : g.method = m₀) (hsize : g.locals.size = c.maxLocals)
    (hRframes : 7 < R.frames) (hRlocals : 2 * g.monitorRoom + (g.stack.map fun v => v.category).sum + 10240 ≤ R.locals)
    (hRcells : cells + 1 ≤ R.cells) (hRslots : slots + n ≤ R.slots) (hlocks : meth.locks = false) :
    ∃ (S : State) (q : Addr) (ce : Cell), (∀ target, Steps p.tables e below ((S.setTop g).pushFrame (.throwing q)) target → Steps p.tables e below ((W.setTop g).pushFrame (.throwNew "java/lang/NullPointerException" none none)) target) ∧
      Stand p l e R s m₀ args below meth c S locs (cells + 1) (slots + n) ∧ S.heap[q]? = some ce ∧ s.vm.findClass "java/lang/NullPointerException" = some ce.cls ∧ ce.vm = .none := by
  have howns : e.platform.frameOwnsMonitors = true := by rw [X.admits.platform]
  have hfin : e.platform.finalization = false := by rw [X.admits.platform]
  have hpl : e.platform.magicAccessors = ({} : Platform).magicAccessors := by rw [X.admits.platform]
  have hpl2 : e.platform.arrayCloneIsPublic = true := by rw [X.admits.platform]
  have a' : ∀ x, x ∈ Bundle.npeArmAtoms n → x.holds args s none s [] = true := fun x hx => h x hx
  obtain ⟨T, Z, L, LZ, Y⟩ := ThrowableC.of_atoms (args := args) howns hfin hpl (fun x hx => h x (by simp [Bundle.npeArmAtoms, hx]))
  obtain ⟨N, LN, hcN, hnNF, hordN, hffS⟩ := NpeC.of_atoms (args := args) hpl hpl2 L Y (fun x hx => h x (by simp [Bundle.npeArmAtoms, hx]))
  obtain ⟨P1, L1, hP1m, hP1s⟩ := PassC.of_atoms (args := args) (s := s) hpl (X := Bundle.nN) (Y := Bundle.rN) (by decide) (by decide) LibCode.NullPointerException.Init0.at_0 LibCode.NullPointerException.Init0.at_1 LibCode.NullPointerException.Init0.at_4 (fun x hx => h x (by simp [Bundle.npeArmAtoms, hx]))
  obtain ⟨PR, LR, hPRm, hPRs⟩ := PassC.of_atoms (args := args) (s := s) hpl (X := Bundle.rN) (Y := Bundle.eN) (by decide) (by decide) LibCode.RuntimeException.Init0.at_0 LibCode.RuntimeException.Init0.at_1 LibCode.RuntimeException.Init0.at_4 (fun x hx => h x (by simp [Bundle.npeArmAtoms, hx]))
  obtain ⟨PE, LEx, hPEm, hPEs⟩ := PassC.of_atoms (args := args) (s := s) hpl (X := Bundle.eN) (Y := Bundle.tN) (by decide) (by decide) LibCode.Exception.Init0.at_0 LibCode.Exception.Init0.at_1 LibCode.Exception.Init0.at_4 (fun x hx => h x (by simp [Bundle.npeArmAtoms, hx]))
  have hfound : s.vm.findClass Bundle.nN = some P1.m.cls := findClass_of_methodNamed hP1m
  have ecls : N.cN = P1.m.cls := Option.some.inj (hcN.symm.trans hfound)
  have hk : s.vm.classes[P1.m.cls]? = some N.kN := by rw [← ecls]; exact LN.cls
  have hinit := Cond.initialized_spec hfound hk (a' (.initialized Bundle.nN) (by simp [Bundle.npeArmAtoms]))
  have hctor : N.kN.findMethod "<init>" "()V" = some P1.m.idx := findMethod_of_methodNamed hP1m hk
  obtain ⟨c1, k1, hc1, hk1, -, -, -, hn⟩ := Cond.instantiable_spec (a' (.instantiable Bundle.nN n) (by simp [Bundle.npeArmAtoms]))
  cases Option.some.inj (hc1.symm.trans hfound)
  cases Option.some.inj (hk1.symm.trans hk)
  have hfsz : (freshCell P1.m.cls N.kN).slots.size = n := by simp [hn]
  have hlink1 : P1.sup = PR.m := Option.some.inj (hP1s.symm.trans hPRm)
  have hlinkR : PR.sup = PE.m := Option.some.inj (hPRs.symm.trans hPEm)
  have hlinkE : PE.sup = Z.m T.toThrowableT := Option.some.inj (hPEs.symm.trans Y.init0)
  have hLs : ∀ P, P ∈ [PR, PE] → P.Links0 e.platform s := fun P hP => by
    simp only [List.mem_cons, List.not_mem_nil, or_false] at hP
    rcases hP with rfl | rfl
    · exact LR
    · exact LEx
  have hsel0 : selectMethod e.platform s.vm P1.m.cls T.fill0 = .method T.fill0 := by
    obtain ⟨c2, r2, m2, q1, q2, q3, q4, -⟩ := Cond.selects_spec (a' (.selects Bundle.nN Bundle.tFill0 Bundle.tFill0) (by simp [Bundle.npeArmAtoms]))
    cases Option.some.inj (q1.symm.trans hfound)
    cases Option.some.inj (q2.symm.trans (State.methodFound?_of_named Y.fill0 (by decide)))
    cases Option.some.inj (q3.symm.trans Y.fill0)
    rw [Launch.admits_selectMethod X.admits]; exact q4
  have hselF : selectMethod e.platform s.vm P1.m.cls T.fill = .method N.fill := by
    obtain ⟨c2, r2, m2, q1, q2, q3, q4, -⟩ := Cond.selects_spec (a' (.selects Bundle.nN Bundle.tFill Bundle.nFill) (by simp [Bundle.npeArmAtoms]))
    cases Option.some.inj (q1.symm.trans hfound)
    cases Option.some.inj (q2.symm.trans (State.methodFound?_of_named Y.fill (by decide)))
    cases Option.some.inj (q3.symm.trans hnNF)
    rw [Launch.admits_selectMethod X.admits]; exact q4
  obtain ⟨cellS0, hcS0, hiss⟩ := Y.statics
  obtain ⟨u0, hu0⟩ := Cond.staticRefV Y.unassigned L.unassignedStatic L.statics hcS0 hiss (a' (.isRef (.static Bundle.tN "UNASSIGNED_STACK" Bundle.steD)) (by simp [Bundle.npeArmAtoms]))
  obtain ⟨sen, hsen⟩ := Cond.staticRefV Y.sentinel L.sentinelStatic L.statics hcS0 hiss (a' (.isRef (.static Bundle.tN "SUPPRESSED_SENTINEL" Bundle.listD)) (by simp [Bundle.npeArmAtoms]))
  obtain ⟨ci198, i198, fB, hk198, hg198, ha198, hsB, -, hnB, htB, hffB⟩ := Cond.ownField (t := .object "java/lang/Object") Y.found L.cls (by decide +kernel) (a' (.fieldLink Bundle.tN 198 Bundle.tN "backtrace" Bundle.objD) (by simp [Bundle.npeArmAtoms])) (a' (.lays Bundle.tN Bundle.tN "backtrace" Bundle.objD) (by simp [Bundle.npeArmAtoms])) e.platform hpl
  obtain ⟨cellS, hcS', heS, -, hkeep⟩ := X.same.2.2.2.2.2 T.aS cellS0 hcS0
  have hcellS : W.heap[T.aS]? = some cellS := hcS'
  have hout' : ∀ i, (⟨T.aS, i⟩ : Loc) ∉ locs := fun i hmem => by
    have := hlocs _ hmem cellS0 hcS0
    rw [hiss] at this; cases this
  have hknownS : cellS.vm ≠ .unknown := by
    rw [heS]; intro hu
    rw [show cellS0.vm = .unknown from hu] at hiss
    cases hiss
  have hvU : cellS.slots[T.fUnassigned.slot]? = some u0.v := by rw [hkeep _ (hout' _)]; exact hu0
  have hvSen : cellS.slots[T.fSentinel.slot]? = some sen.v := by rw [hkeep _ (hout' _)]; exact hsen
  obtain ⟨tyC, dC, hdC, hdnC⟩ := Cond.laysAt hfound hk Y.cause (a' (.lays Bundle.nN Bundle.tN "cause" "Ljava/lang/Throwable;") (by simp [Bundle.npeArmAtoms]))
  obtain ⟨tyS, dS, hdS, hdnS⟩ := Cond.laysAt hfound hk Y.stack (a' (.lays Bundle.nN Bundle.tN "stackTrace" Bundle.steD) (by simp [Bundle.npeArmAtoms]))
  obtain ⟨tyP, dP, hdP, hdnP⟩ := Cond.laysAt hfound hk Y.supp (a' (.lays Bundle.nN Bundle.tN "suppressedExceptions" Bundle.listD) (by simp [Bundle.npeArmAtoms]))
  obtain ⟨tyX, dX, hdX, hdnX⟩ := Cond.laysAt hfound hk hffS (a' (.lays Bundle.nN Bundle.nN "extendedMessageState" "I") (by simp [Bundle.npeArmAtoms, Bundle.npeAtoms]))
  obtain ⟨hnX, htX⟩ := State.fieldFound?_type hffS (t := .int) (by decide +kernel)
  have xC := Cond.laysApart hdC hdX hdnC hdnX (by rw [hnX, Y.causeName]; decide)
  have xS := Cond.laysApart hdS hdX hdnS hdnX (by rw [hnX, Y.stackName]; decide)
  have xP := Cond.laysApart hdP hdX hdnP hdnX (by rw [hnX, Y.suppName]; decide)
  have hv0 : (freshCell P1.m.cls N.kN).slots[N.fState.slot]? = some (.int 0) := by
    have := fresh_default (c := P1.m.cls) tyX
    rw [htX] at this; exact this
  obtain ⟨tyB, dB, hdB, hdnB⟩ := Cond.laysAt hfound hk hffB (a' (.lays Bundle.nN Bundle.tN "backtrace" Bundle.objD) (by simp [Bundle.npeArmAtoms]))
  have bC := Cond.laysApart hdB hdC hdnB hdnC (by rw [hnB, Y.causeName]; decide)
  have bS := Cond.laysApart hdB hdS hdnB hdnS (by rw [hnB, Y.stackName]; decide)
  have bP := Cond.laysApart hdB hdP hdnB hdnP (by rw [hnB, Y.suppName]; decide)
  have bX := Cond.laysApart hdB hdX hdnB hdnX (by rw [hnB, hnX]; decide)
  have hbk : ((npeCell N.toNpeT (preparedCellV T.toThrowableT (freshCell P1.m.cls N.kN) W.heap.size u0 sen) W.cur).withEntry W.cur).slots[fB.slot]? = some .null := by
    have := fresh_default (c := P1.m.cls) tyB
    rw [htB] at this
    simpa [npeCell, preparedCellV, Cell.setSlot, Cell.withEntry, Array.getElem?_setIfInBounds, bC, bS, bP, bX, bC.symm, bS.symm, bP.symm, bX.symm, defaultValue] using this
  have tkC := Takes.of_laid (v := .ref W.heap.size) hk hordN tyC (by rw [Y.causeType]; rfl)
  have tkS := Takes.of_laid (v := u0.v) hk hordN tyS (by rw [Y.stackType]; exact fits_refV_array _ u0)
  have tkP := Takes.of_laid (v := sen.v) hk hordN tyP (by rw [Y.suppType]; exact fits_refV_object _ sen)
  have tkX := Takes.of_laid (v := .int 1) hk hordN tyX (by rw [htX]; rfl)
  have hskip : SkipFacts T e.platform s (fun u => u) u0 ((npeCell N.toNpeT (preparedCellV T.toThrowableT (freshCell P1.m.cls N.kN) W.heap.size u0 sen) W.cur).withEntry W.cur) := ⟨{ ci198 := ci198, i198 := i198, fBack := fB }, ⟨hk198, hg198, ha198, hsB⟩, hbk, fun _ _ => rfl⟩
  obtain ⟨vm', X3, st, -⟩ := X.throwsNpeColdBareVAt hexec hg hsize T L Z LZ N LN P1 L1 [PR, PE] hLs hlink1 ⟨hlinkR, hlinkE, trivial⟩ hfound hk hinit hordN hctor hsel0 hselF hcellS hknownS hvU hvSen
    hv0 xC xS xP tkC tkS tkP tkX Y.objLocals hskip (fun _ _ hA hW _ hroom _ hrest => L.nativeOff p htr hA hW hroom hrest) (by simpa using hRframes) hRlocals (by simp) hRcells (by rw [hn]; exact hRslots)
  have hlt : W.heap.size < ((W.pushCell (freshCell P1.m.cls N.kN)).setVm vm').heap.size := by
    show W.heap.size < (W.pushCell (freshCell P1.m.cls N.kN)).heap.size
    rw [State.heap_size_pushCell]; omega
  rw [hfsz] at X3
  obtain ⟨g₁, hfrM⟩ := X3.frames_eq
  have hU : ((((W.pushCell (freshCell P1.m.cls N.kN)).setVm vm').setCell W.heap.size (npeBareV T.toThrowableT N.toNpeT (freshCell P1.m.cls N.kN) W.heap.size u0 sen)).setTop g).pushFrame (.throwing W.heap.size) = (((W.pushCell (freshCell P1.m.cls N.kN)).setVm vm').setCell W.heap.size (npeBareV T.toThrowableT N.toNpeT (freshCell P1.m.cls N.kN) W.heap.size u0 sen)).setFrames (.throwing W.heap.size :: .java g :: below) := by
    rw [State.pushFrame, State.frames_setTop _ hfrM, State.setTop_of_frames _ hfrM, State.setFrames_setFrames]
  refine ⟨_, W.heap.size, _, fun target ht => st.trans (by rw [← hU]; exact ht), X3.forget (fun y hy => ?_), heapAt_setCell_self _ hlt, hfound, rfl⟩
  simp only [List.mem_cons, List.not_mem_nil, or_false] at hy
  have hge : s.heap.size ≤ W.heap.size := X.same.2.1
  rcases hy with rfl | rfl | rfl | rfl | rfl <;> exact hge
/-- the words of a machine's NullPointerException, but the four that speak of the heap -/
def vx_atN (n : Nat) : List Cond := (Bundle.npeArmAtoms n).filter vx_no
/-- the words of a machine's throw with a message, but the four that speak of the heap -/
def vx_atM (X : String) (names : List String) : List Cond := (Bundle.messageArmAtoms X names).filter vx_no
section
variable {p : Program} {l : Launch} {e : Env} {R : Room} {s : State} {m : MethodId} {args : Array Value} {below : List Frame} {meth : Method} {c : Code} {H : Heap} {locs : List Loc} {cells slots : Nat}
/-- a frame seen from a rebased start, seen from the first start again -/
theorem vx_back9 {T S : State} {R' : Room} {k n : Nat} (X : Stand p l e R s m args below meth c T locs cells slots) (Y : Stand p l e R' ((T.setVm s.vm).setFrames (.invoking m args :: below)) m args below meth c T [] 0 0) (Z : Stand p l e R' ((T.setVm s.vm).setFrames (.invoking m args :: below)) m args below meth c S [] k n) :
    Stand p l e R s m args below meth c S locs (cells + k) (slots + n) := by
  have hW0 : s.WarmedH ((T.setVm s.vm).setFrames (.invoking m args :: below)).vm := State.WarmedH.refl s
  refine { admits := X.admits, cas := X.cas, clock := X.clock, frames := X.frames, room := X.room, hears := X.hears, method := X.method, code := X.code, here := Z.here, tail := Z.tail, warmed := State.WarmedH.trans hW0 Z.warmed, limits := Z.limits.trans (Y.limits.symm.trans X.limits), bytes := Z.bytes.trans (Y.bytes.symm.trans X.bytes), same := ?_ }
  obtain ⟨e1, e2⟩ := Z.same
  rw [State.setFrames_setFrames] at e1
  have h2 : (T.setVm s.vm).sameButNew (S.setVm s.vm) [] k n := ⟨e1, e2⟩
  have h3 := X.same.trans h2
  rw [List.append_nil] at h3
  exact h3
/-- from the machine's note that E is thrown here with this text -/
def vx_Note (p : Program) (l : Launch) (e : Env) (R : Room) (s : State) (m : MethodId) (args : Array Value) (below : List Frame) (meth : Method) (c : Code) (H : Heap) (locs : List Loc) (cells slots : Nat) (Q : State → Prop) (g : JFrame) (E text : String) : Prop :=
  ∀ T : State, T.heap = H → Stand p l e R s m args below meth c T locs cells slots → ∃ t, Steps p.tables e below ((T.setTop g).pushFrame (.throwNew E (some text) none)) t ∧ Q t
theorem vx_vm {pc : Nat} {ls : Array Slot} {rest : List Value} {Q : State → Prop} (hexec : p.tables.exec = Jvm.exec) (hl : l.stackTraces = false) {cls text : String} {names : List String} {nb : Nat} {A : Nat → Prop}
    (hcls : Bundle.fit cls = true) (hnames : ∀ n ∈ names, Bundle.fit n = true) (hsoe : (cls == "java/lang/StackOverflowError") = false) (hoom : (cls == "java/lang/OutOfMemoryError") = false)
    (hat : ∀ w ∈ vx_atM cls names, w.before args s = true) (hgood : ∀ w ∈ vx_atM cls names, vx_ot w = true)
    (hU : vx_Zq Bundle.tN "UNASSIGNED_STACK" Bundle.steD A s s.heap) (hN : vx_Zq Bundle.tN "SUPPRESSED_SENTINEL" Bundle.listD A s s.heap) (hS : va_S A s.heap H locs) (hsize : ls.size = c.maxLocals)
    (htext : (text == notModelled) = false) (hnb : (stringBytes (stringToUtf16 text)).size ≤ nb) (hnb1 : nb ≤ 1000)
    (hRframes : names.length + 4 < R.frames) (hRlocals : (rest.map fun v => v.category).sum + 10240 ≤ R.locals) (hshort : 13 * names.length + 55 ≤ 10240) (hRcells : cells + 3 ≤ R.cells) (hRslots : slots + (nb + 10) ≤ R.slots) (hlocks : meth.locks = false)
    (k : ∀ (H1 : Heap) (q9 : Addr) (ce : Cell), H.size ≤ H1.size → (∀ q : Nat, q < H.size → H1[q]? = H[q]?) → va_S A s.heap H1 locs → H1[q9]? = some ce → ce.vm = .none → s.vm.findClass cls = some ce.cls → vx_W p l e R s m args below meth c H1 locs (cells + 3) (slots + (nb + 10)) Q (F0 m pc ls rest) q9) :
    vx_Note p l e R s m args below meth c H locs cells slots Q (F0 m pc ls rest) cls text := by
  intro T hT X
  have htr : e.platform.stackTraces = false := (show e.platform.stackTraces = l.stackTraces by rw [X.admits.platform]).trans hl
  have Y := vx_rebase X (R' := { frames := R.frames, locals := R.locals, cells := 3, slots := nb + 10 }) (Nat.le_refl _) (Nat.le_refl _) hRcells hRslots
  have hhp : ((T.setVm s.vm).setFrames (.invoking m args :: below)).heap = H := hT
  have hW0 : s.WarmedH ((T.setVm s.vm).setFrames (.invoking m args :: below)).vm := State.WarmedH.refl s
  have hat' : ∀ w ∈ vx_atM cls names, w.before args ((T.setVm s.vm).setFrames (.invoking m args :: below)) = true := fun w hw => vx_ot_at hW0 rfl (hgood w hw) (hat w hw)
  have hU' : vx_Zq Bundle.tN "UNASSIGNED_STACK" Bundle.steD A ((T.setVm s.vm).setFrames (.invoking m args :: below)) ((T.setVm s.vm).setFrames (.invoking m args :: below)).heap := by rw [hhp]; exact vx_Zq.moved hW0.alike (hU.kept hS.2.1)
  have hN' : vx_Zq Bundle.tN "SUPPRESSED_SENTINEL" Bundle.listD A ((T.setVm s.vm).setFrames (.invoking m args :: below)) ((T.setVm s.vm).setFrames (.invoking m args :: below)).heap := by rw [hhp]; exact vx_Zq.moved hW0.alike (hN.kept hS.2.1)
  obtain ⟨S, q, ce, st, Z, hce, hcl', hv⟩ := vx_vmAt Y hexec htr (cls := cls) (names := names) (text := text) hcls hnames hsoe hoom (vx_own hat' (vx_isRefq hU'.1) (vx_isRefq hN'.1) hU'.2.word hN'.2.word) (fun x hx => nomatch hx) htext
    (by rw [Launch.admits_arrayLengthLimit X.admits]; omega) (by rw [Launch.admits_maxHeapBytes X.admits]; simp only [componentBytes]; omega)
    (g := F0 m pc ls rest) rfl hsize hRframes (by show 2 * 0 + (rest.map fun v => v.category).sum + 10240 ≤ R.locals; omega) hshort (by show 0 + 3 ≤ 3; omega) (by show 0 + (_ + 4 + 6) ≤ nb + 10; omega) hlocks
  obtain ⟨f1, f2⟩ := vx_frame Z.same
  have f1' : H.size ≤ S.heap.size := by rw [← hT]; exact f1
  have f2' : ∀ q : Nat, q < H.size → S.heap[q]? = H[q]? := fun q hq => by
    rw [← hT]
    exact f2 q (by rw [← hT] at hq; exact hq) (fun z hz => nomatch hz)
  have X5 := vx_back9 X Y Z
  have X6 : Stand p l e R s m args below meth c S locs (cells + 3) (slots + (nb + 10)) := { X5 with same := X5.same.mono (by omega) (by omega) }
  obtain ⟨t, a1, b1⟩ := k S.heap q ce f1' f2' ⟨Nat.le_trans hS.1 f1', fun q h1 h2 => (f2' q (Nat.lt_of_lt_of_le h1 hS.1)).trans (hS.2.1 q h1 h2), hS.2.2⟩ hce hv hcl' S rfl X6
  exact ⟨t, st t a1, b1⟩
/-- from the machine's note that NullPointerException is thrown here -/
def vx_NoteN (p : Program) (l : Launch) (e : Env) (R : Room) (s : State) (m : MethodId) (args : Array Value) (below : List Frame) (meth : Method) (c : Code) (H : Heap) (locs : List Loc) (cells slots : Nat) (Q : State → Prop) (g : JFrame) : Prop :=
  ∀ T : State, T.heap = H → Stand p l e R s m args below meth c T locs cells slots → ∃ t, Steps p.tables e below ((T.setTop g).pushFrame (.throwNew "java/lang/NullPointerException" none none)) t ∧ Q t
theorem vx_npe {pc : Nat} {ls : Array Slot} {rest : List Value} {Q : State → Prop} (hexec : p.tables.exec = Jvm.exec) (hl : l.stackTraces = false) {nb : Nat} {A : Nat → Prop}
    (hat : ∀ w ∈ vx_atN nb, w.before args s = true) (hgood : ∀ w ∈ vx_atN nb, vx_ot w = true)
    (hU : vx_Zq Bundle.tN "UNASSIGNED_STACK" Bundle.steD A s s.heap) (hN : vx_Zq Bundle.tN "SUPPRESSED_SENTINEL" Bundle.listD A s s.heap) (hS : va_S A s.heap H locs) (hsize : ls.size = c.maxLocals)
    (hRframes : 7 < R.frames) (hRlocals : (rest.map fun v => v.category).sum + 10240 ≤ R.locals) (hRcells : cells + 1 ≤ R.cells) (hRslots : slots + nb ≤ R.slots) (hlocks : meth.locks = false)
    (k : ∀ (H1 : Heap) (q9 : Addr) (ce : Cell), H.size ≤ H1.size → (∀ q : Nat, q < H.size → H1[q]? = H[q]?) → va_S A s.heap H1 locs → H1[q9]? = some ce → ce.vm = .none → s.vm.findClass "java/lang/NullPointerException" = some ce.cls → vx_W p l e R s m args below meth c H1 locs (cells + 1) (slots + nb) Q (F0 m pc ls rest) q9) :
    vx_NoteN p l e R s m args below meth c H locs cells slots Q (F0 m pc ls rest) := by
  intro T hT X
  have htr : e.platform.stackTraces = false := (show e.platform.stackTraces = l.stackTraces by rw [X.admits.platform]).trans hl
  have Y := vx_rebase X (R' := { frames := R.frames, locals := R.locals, cells := 1, slots := nb }) (Nat.le_refl _) (Nat.le_refl _) hRcells hRslots
  have hhp : ((T.setVm s.vm).setFrames (.invoking m args :: below)).heap = H := hT
  have hW0 : s.WarmedH ((T.setVm s.vm).setFrames (.invoking m args :: below)).vm := State.WarmedH.refl s
  have hat' : ∀ w ∈ vx_atN nb, w.before args ((T.setVm s.vm).setFrames (.invoking m args :: below)) = true := fun w hw => vx_ot_at hW0 rfl (hgood w hw) (hat w hw)
  have hU' : vx_Zq Bundle.tN "UNASSIGNED_STACK" Bundle.steD A ((T.setVm s.vm).setFrames (.invoking m args :: below)) ((T.setVm s.vm).setFrames (.invoking m args :: below)).heap := by rw [hhp]; exact vx_Zq.moved hW0.alike (hU.kept hS.2.1)
  have hN' : vx_Zq Bundle.tN "SUPPRESSED_SENTINEL" Bundle.listD A ((T.setVm s.vm).setFrames (.invoking m args :: below)) ((T.setVm s.vm).setFrames (.invoking m args :: below)).heap := by rw [hhp]; exact vx_Zq.moved hW0.alike (hN.kept hS.2.1)
  obtain ⟨S, q, ce, st, Z, hce, hcl', hv⟩ := vx_npeAt Y hexec htr (n := nb) (vx_own hat' (vx_isRefq hU'.1) (vx_isRefq hN'.1) hU'.2.word hN'.2.word) (fun x hx => nomatch hx)
    (g := F0 m pc ls rest) rfl hsize hRframes (by show 2 * 0 + (rest.map fun v => v.category).sum + 10240 ≤ R.locals; omega) (by show 0 + 1 ≤ 1; omega) (by show 0 + nb ≤ nb; omega) hlocks
  obtain ⟨f1, f2⟩ := vx_frame Z.same
  have f1' : H.size ≤ S.heap.size := by rw [← hT]; exact f1
  have f2' : ∀ q : Nat, q < H.size → S.heap[q]? = H[q]? := fun q hq => by
    rw [← hT]
    exact f2 q (by rw [← hT] at hq; exact hq) (fun z hz => nomatch hz)
  have X5 := vx_back9 X Y Z
  have X6 : Stand p l e R s m args below meth c S locs (cells + 1) (slots + nb) := { X5 with same := X5.same.mono (by omega) (by omega) }
  obtain ⟨t, a1, b1⟩ := k S.heap q ce f1' f2' ⟨Nat.le_trans hS.1 f1', fun q h1 h2 => (f2' q (Nat.lt_of_lt_of_le h1 hS.1)).trans (hS.2.1 q h1 h2), hS.2.2⟩ hce hv hcl' S rfl X6
  exact ⟨t, st t a1, b1⟩
variable {Q : State → Prop} {cc : ByteArray} {pc : Nat} {ls : Array Slot} {rest : List Value}
theorem vx_idivZ (hexec : p.tables.exec = Jvm.exec) (hb : c.code = cc) {a b : Int32} (h0 : b = 0) (d : decode cc pc = .ok (.idiv, 1)) (k : vx_Note p l e R s m args below meth c H locs cells slots Q (F0 m pc ls rest) "java/lang/ArithmeticException" "/ by zero") :
    W p l e R s m args below meth c H locs cells slots Q (F0 m pc ls (.int b :: .int a :: rest)) := by
  intro T hT X
  obtain ⟨t, st, q⟩ := k T hT X
  exact ⟨t, X.idivZero hexec (g := F0 m pc ls (.int b :: .int a :: rest)) rfl (a := a) (rest := rest) (by rw [h0]) (by rw [hb]; exact d) t st, q⟩
theorem vx_iremZ (hexec : p.tables.exec = Jvm.exec) (hb : c.code = cc) {a b : Int32} (h0 : b = 0) (d : decode cc pc = .ok (.irem, 1)) (k : vx_Note p l e R s m args below meth c H locs cells slots Q (F0 m pc ls rest) "java/lang/ArithmeticException" "/ by zero") :
    W p l e R s m args below meth c H locs cells slots Q (F0 m pc ls (.int b :: .int a :: rest)) := by
  intro T hT X
  obtain ⟨t, st, q⟩ := k T hT X
  exact ⟨t, X.iremZero hexec (g := F0 m pc ls (.int b :: .int a :: rest)) rfl (a := a) (rest := rest) (by rw [h0]) (by rw [hb]; exact d) t st, q⟩
theorem vx_ldivZ (hexec : p.tables.exec = Jvm.exec) (hb : c.code = cc) {a b : Int64} (h0 : b = 0) (d : decode cc pc = .ok (.ldiv, 1)) (k : vx_Note p l e R s m args below meth c H locs cells slots Q (F0 m pc ls rest) "java/lang/ArithmeticException" "/ by zero") :
    W p l e R s m args below meth c H locs cells slots Q (F0 m pc ls (.long b :: .long a :: rest)) := by
  intro T hT X
  obtain ⟨t, st, q⟩ := k T hT X
  exact ⟨t, X.ldivZero hexec (g := F0 m pc ls (.long b :: .long a :: rest)) rfl (a := a) (rest := rest) (by rw [h0]) (by rw [hb]; exact d) t st, q⟩
theorem vx_lremZ (hexec : p.tables.exec = Jvm.exec) (hb : c.code = cc) {a b : Int64} (h0 : b = 0) (d : decode cc pc = .ok (.lrem, 1)) (k : vx_Note p l e R s m args below meth c H locs cells slots Q (F0 m pc ls rest) "java/lang/ArithmeticException" "/ by zero") :
    W p l e R s m args below meth c H locs cells slots Q (F0 m pc ls (.long b :: .long a :: rest)) := by
  intro T hT X
  obtain ⟨t, st, q⟩ := k T hT X
  exact ⟨t, X.lremZero hexec (g := F0 m pc ls (.long b :: .long a :: rest)) rfl (a := a) (rest := rest) (by rw [h0]) (by rw [hb]; exact d) t st, q⟩
theorem vx_ialdZ {D : va_G} {cl : List vw_C} {ws : va_W} {tys : List (ClassId × FieldType)} {a : Nat} (hexec : p.tables.exec = Jvm.exec) (hb : c.code = cc) (hK : va_K D cl tys s) (hP : va_P D cl ws H) (q0 t0 : Nat) {cA : ClassId} {n : Nat} {f : Nat → Int32} (ha : ws[q0]? = some (a, .inl (cA, n, .inl f))) (ht : tys[t0]? = some (cA, .int)) {i : Int32} (hout : ¬ vp_in i n) (hdg : decode cc pc = .ok (.iaload, 1))
    (k : ∀ tx : String, tx = (toString "Index " ++ toString i ++ toString " out of bounds for length " ++ toString n : String) → vx_Note p l e R s m args below meth c H locs cells slots Q (F0 m pc ls rest) "java/lang/ArrayIndexOutOfBoundsException" tx) : W p l e R s m args below meth c H locs cells slots Q (F0 m pc ls (.int i :: .ref a :: rest)) := by
  intro T hT X
  obtain ⟨t, st, q⟩ := k _ rfl T hT X
  refine ⟨t, ?_, q⟩
  have h1 := X.ialoadOut hexec (by rw [hT]; exact hP q0 _ ha) ((hK.2 t0 _ ht).1 n (fun j => .int (f j))) (j := i) (by show (i < 0 ∨ (arrV _ _ _).slots.size ≤ _); rw [arrV_size]; exact Classical.byContradiction hout) (g := F0 m pc ls (.int i :: .ref a :: rest)) rfl (rest := rest) rfl (by rw [hb]; exact hdg) t
  simp only [arrV_size] at h1
  exact h1 st
theorem vx_iastZ {D : va_G} {cl : List vw_C} {ws : va_W} {tys : List (ClassId × FieldType)} {a : Nat} (hexec : p.tables.exec = Jvm.exec) (hb : c.code = cc) (hK : va_K D cl tys s) (hP : va_P D cl ws H) (q0 t0 : Nat) {cA : ClassId} {n : Nat} {f : Nat → Int32} (ha : ws[q0]? = some (a, .inl (cA, n, .inl f))) (ht : tys[t0]? = some (cA, .int)) {i : Int32} {x : Int32} (hout : ¬ vp_in i n) (hdg : decode cc pc = .ok (.iastore, 1))
    (k : ∀ tx : String, tx = (toString "Index " ++ toString i ++ toString " out of bounds for length " ++ toString n : String) → vx_Note p l e R s m args below meth c H locs cells slots Q (F0 m pc ls rest) "java/lang/ArrayIndexOutOfBoundsException" tx) : W p l e R s m args below meth c H locs cells slots Q (F0 m pc ls (.int x :: .int i :: .ref a :: rest)) := by
  intro T hT X
  obtain ⟨t, st, q⟩ := k _ rfl T hT X
  refine ⟨t, ?_, q⟩
  have h1 := X.iastoreOut hexec (by rw [hT]; exact hP q0 _ ha) ((hK.2 t0 _ ht).1 n (fun j => .int (f j))) (j := i) (by show (i < 0 ∨ (arrV _ _ _).slots.size ≤ _); rw [arrV_size]; exact Classical.byContradiction hout) (g := F0 m pc ls (.int x :: .int i :: .ref a :: rest)) rfl (rest := rest) rfl (by rw [hb]; exact hdg) t
  simp only [arrV_size] at h1
  exact h1 st
theorem vx_baldZ {D : va_G} {cl : List vw_C} {ws : va_W} {tys : List (ClassId × FieldType)} {a : Nat} (hexec : p.tables.exec = Jvm.exec) (hb : c.code = cc) (hK : va_K D cl tys s) (hP : va_P D cl ws H) (q0 t0 : Nat) {cA : ClassId} {n : Nat} {f : Nat → Int32} (ha : ws[q0]? = some (a, .inl (cA, n, .inl f))) (ht : tys[t0]? = some (cA, .byte)) {i : Int32} (hout : ¬ vp_in i n) (hdg : decode cc pc = .ok (.baload, 1))
    (k : ∀ tx : String, tx = (toString "Index " ++ toString i ++ toString " out of bounds for length " ++ toString n : String) → vx_Note p l e R s m args below meth c H locs cells slots Q (F0 m pc ls rest) "java/lang/ArrayIndexOutOfBoundsException" tx) : W p l e R s m args below meth c H locs cells slots Q (F0 m pc ls (.int i :: .ref a :: rest)) := by
  intro T hT X
  obtain ⟨t, st, q⟩ := k _ rfl T hT X
  refine ⟨t, ?_, q⟩
  have h1 := X.baloadOut hexec (by rw [hT]; exact hP q0 _ ha) ((hK.2 t0 _ ht).1 n (fun j => .int (f j))) (j := i) (by show (i < 0 ∨ (arrV _ _ _).slots.size ≤ _); rw [arrV_size]; exact Classical.byContradiction hout) (g := F0 m pc ls (.int i :: .ref a :: rest)) rfl (rest := rest) rfl (by rw [hb]; exact hdg) t
  simp only [arrV_size] at h1
  exact h1 st
theorem vx_bastZ {D : va_G} {cl : List vw_C} {ws : va_W} {tys : List (ClassId × FieldType)} {a : Nat} (hexec : p.tables.exec = Jvm.exec) (hb : c.code = cc) (hK : va_K D cl tys s) (hP : va_P D cl ws H) (q0 t0 : Nat) {cA : ClassId} {n : Nat} {f : Nat → Int32} (ha : ws[q0]? = some (a, .inl (cA, n, .inl f))) (ht : tys[t0]? = some (cA, .byte)) {i : Int32} {x : Int32} (hout : ¬ vp_in i n) (hdg : decode cc pc = .ok (.bastore, 1))
    (k : ∀ tx : String, tx = (toString "Index " ++ toString i ++ toString " out of bounds for length " ++ toString n : String) → vx_Note p l e R s m args below meth c H locs cells slots Q (F0 m pc ls rest) "java/lang/ArrayIndexOutOfBoundsException" tx) : W p l e R s m args below meth c H locs cells slots Q (F0 m pc ls (.int x :: .int i :: .ref a :: rest)) := by
  intro T hT X
  obtain ⟨t, st, q⟩ := k _ rfl T hT X
  refine ⟨t, ?_, q⟩
  have h1 := X.bastoreOut hexec (by rw [hT]; exact hP q0 _ ha) ((hK.2 t0 _ ht).1 n (fun j => .int (f j))) (j := i) (by show (i < 0 ∨ (arrV _ _ _).slots.size ≤ _); rw [arrV_size]; exact Classical.byContradiction hout) (g := F0 m pc ls (.int x :: .int i :: .ref a :: rest)) rfl (rest := rest) rfl (by rw [hb]; exact hdg) t
  simp only [arrV_size] at h1
  exact h1 st
theorem vx_zaldZ {D : va_G} {cl : List vw_C} {ws : va_W} {tys : List (ClassId × FieldType)} {a : Nat} (hexec : p.tables.exec = Jvm.exec) (hb : c.code = cc) (hK : va_K D cl tys s) (hP : va_P D cl ws H) (q0 t0 : Nat) {cA : ClassId} {n : Nat} {f : Nat → Int32} (ha : ws[q0]? = some (a, .inl (cA, n, .inl f))) (ht : tys[t0]? = some (cA, .boolean)) {i : Int32} (hout : ¬ vp_in i n) (hdg : decode cc pc = .ok (.baload, 1))
    (k : ∀ tx : String, tx = (toString "Index " ++ toString i ++ toString " out of bounds for length " ++ toString n : String) → vx_Note p l e R s m args below meth c H locs cells slots Q (F0 m pc ls rest) "java/lang/ArrayIndexOutOfBoundsException" tx) : W p l e R s m args below meth c H locs cells slots Q (F0 m pc ls (.int i :: .ref a :: rest)) := by
  intro T hT X
  obtain ⟨t, st, q⟩ := k _ rfl T hT X
  refine ⟨t, ?_, q⟩
  have h1 := X.baloadOut hexec (by rw [hT]; exact hP q0 _ ha) ((hK.2 t0 _ ht).1 n (fun j => .int (f j))) (j := i) (by show (i < 0 ∨ (arrV _ _ _).slots.size ≤ _); rw [arrV_size]; exact Classical.byContradiction hout) (g := F0 m pc ls (.int i :: .ref a :: rest)) rfl (rest := rest) rfl (by rw [hb]; exact hdg) t
  simp only [arrV_size] at h1
  exact h1 st
theorem vx_zastZ {D : va_G} {cl : List vw_C} {ws : va_W} {tys : List (ClassId × FieldType)} {a : Nat} (hexec : p.tables.exec = Jvm.exec) (hb : c.code = cc) (hK : va_K D cl tys s) (hP : va_P D cl ws H) (q0 t0 : Nat) {cA : ClassId} {n : Nat} {f : Nat → Int32} (ha : ws[q0]? = some (a, .inl (cA, n, .inl f))) (ht : tys[t0]? = some (cA, .boolean)) {i : Int32} {x : Int32} (hout : ¬ vp_in i n) (hdg : decode cc pc = .ok (.bastore, 1))
    (k : ∀ tx : String, tx = (toString "Index " ++ toString i ++ toString " out of bounds for length " ++ toString n : String) → vx_Note p l e R s m args below meth c H locs cells slots Q (F0 m pc ls rest) "java/lang/ArrayIndexOutOfBoundsException" tx) : W p l e R s m args below meth c H locs cells slots Q (F0 m pc ls (.int x :: .int i :: .ref a :: rest)) := by
  intro T hT X
  obtain ⟨t, st, q⟩ := k _ rfl T hT X
  refine ⟨t, ?_, q⟩
  have h1 := X.bastoreOut hexec (by rw [hT]; exact hP q0 _ ha) ((hK.2 t0 _ ht).1 n (fun j => .int (f j))) (j := i) (by show (i < 0 ∨ (arrV _ _ _).slots.size ≤ _); rw [arrV_size]; exact Classical.byContradiction hout) (g := F0 m pc ls (.int x :: .int i :: .ref a :: rest)) rfl (rest := rest) rfl (by rw [hb]; exact hdg) t
  simp only [arrV_size] at h1
  exact h1 st
theorem vx_caldZ {D : va_G} {cl : List vw_C} {ws : va_W} {tys : List (ClassId × FieldType)} {a : Nat} (hexec : p.tables.exec = Jvm.exec) (hb : c.code = cc) (hK : va_K D cl tys s) (hP : va_P D cl ws H) (q0 t0 : Nat) {cA : ClassId} {n : Nat} {f : Nat → Int32} (ha : ws[q0]? = some (a, .inl (cA, n, .inl f))) (ht : tys[t0]? = some (cA, .char)) {i : Int32} (hout : ¬ vp_in i n) (hdg : decode cc pc = .ok (.caload, 1))
    (k : ∀ tx : String, tx = (toString "Index " ++ toString i ++ toString " out of bounds for length " ++ toString n : String) → vx_Note p l e R s m args below meth c H locs cells slots Q (F0 m pc ls rest) "java/lang/ArrayIndexOutOfBoundsException" tx) : W p l e R s m args below meth c H locs cells slots Q (F0 m pc ls (.int i :: .ref a :: rest)) := by
  intro T hT X
  obtain ⟨t, st, q⟩ := k _ rfl T hT X
  refine ⟨t, ?_, q⟩
  have h1 := X.caloadOut hexec (by rw [hT]; exact hP q0 _ ha) ((hK.2 t0 _ ht).1 n (fun j => .int (f j))) (j := i) (by show (i < 0 ∨ (arrV _ _ _).slots.size ≤ _); rw [arrV_size]; exact Classical.byContradiction hout) (g := F0 m pc ls (.int i :: .ref a :: rest)) rfl (rest := rest) rfl (by rw [hb]; exact hdg) t
  simp only [arrV_size] at h1
  exact h1 st
theorem vx_castZ {D : va_G} {cl : List vw_C} {ws : va_W} {tys : List (ClassId × FieldType)} {a : Nat} (hexec : p.tables.exec = Jvm.exec) (hb : c.code = cc) (hK : va_K D cl tys s) (hP : va_P D cl ws H) (q0 t0 : Nat) {cA : ClassId} {n : Nat} {f : Nat → Int32} (ha : ws[q0]? = some (a, .inl (cA, n, .inl f))) (ht : tys[t0]? = some (cA, .char)) {i : Int32} {x : Int32} (hout : ¬ vp_in i n) (hdg : decode cc pc = .ok (.castore, 1))
    (k : ∀ tx : String, tx = (toString "Index " ++ toString i ++ toString " out of bounds for length " ++ toString n : String) → vx_Note p l e R s m args below meth c H locs cells slots Q (F0 m pc ls rest) "java/lang/ArrayIndexOutOfBoundsException" tx) : W p l e R s m args below meth c H locs cells slots Q (F0 m pc ls (.int x :: .int i :: .ref a :: rest)) := by
  intro T hT X
  obtain ⟨t, st, q⟩ := k _ rfl T hT X
  refine ⟨t, ?_, q⟩
  have h1 := X.castoreOut hexec (by rw [hT]; exact hP q0 _ ha) ((hK.2 t0 _ ht).1 n (fun j => .int (f j))) (j := i) (by show (i < 0 ∨ (arrV _ _ _).slots.size ≤ _); rw [arrV_size]; exact Classical.byContradiction hout) (g := F0 m pc ls (.int x :: .int i :: .ref a :: rest)) rfl (rest := rest) rfl (by rw [hb]; exact hdg) t
  simp only [arrV_size] at h1
  exact h1 st
theorem vx_saldZ {D : va_G} {cl : List vw_C} {ws : va_W} {tys : List (ClassId × FieldType)} {a : Nat} (hexec : p.tables.exec = Jvm.exec) (hb : c.code = cc) (hK : va_K D cl tys s) (hP : va_P D cl ws H) (q0 t0 : Nat) {cA : ClassId} {n : Nat} {f : Nat → Int32} (ha : ws[q0]? = some (a, .inl (cA, n, .inl f))) (ht : tys[t0]? = some (cA, .short)) {i : Int32} (hout : ¬ vp_in i n) (hdg : decode cc pc = .ok (.saload, 1))
    (k : ∀ tx : String, tx = (toString "Index " ++ toString i ++ toString " out of bounds for length " ++ toString n : String) → vx_Note p l e R s m args below meth c H locs cells slots Q (F0 m pc ls rest) "java/lang/ArrayIndexOutOfBoundsException" tx) : W p l e R s m args below meth c H locs cells slots Q (F0 m pc ls (.int i :: .ref a :: rest)) := by
  intro T hT X
  obtain ⟨t, st, q⟩ := k _ rfl T hT X
  refine ⟨t, ?_, q⟩
  have h1 := X.saloadOut hexec (by rw [hT]; exact hP q0 _ ha) ((hK.2 t0 _ ht).1 n (fun j => .int (f j))) (j := i) (by show (i < 0 ∨ (arrV _ _ _).slots.size ≤ _); rw [arrV_size]; exact Classical.byContradiction hout) (g := F0 m pc ls (.int i :: .ref a :: rest)) rfl (rest := rest) rfl (by rw [hb]; exact hdg) t
  simp only [arrV_size] at h1
  exact h1 st
theorem vx_sastZ {D : va_G} {cl : List vw_C} {ws : va_W} {tys : List (ClassId × FieldType)} {a : Nat} (hexec : p.tables.exec = Jvm.exec) (hb : c.code = cc) (hK : va_K D cl tys s) (hP : va_P D cl ws H) (q0 t0 : Nat) {cA : ClassId} {n : Nat} {f : Nat → Int32} (ha : ws[q0]? = some (a, .inl (cA, n, .inl f))) (ht : tys[t0]? = some (cA, .short)) {i : Int32} {x : Int32} (hout : ¬ vp_in i n) (hdg : decode cc pc = .ok (.sastore, 1))
    (k : ∀ tx : String, tx = (toString "Index " ++ toString i ++ toString " out of bounds for length " ++ toString n : String) → vx_Note p l e R s m args below meth c H locs cells slots Q (F0 m pc ls rest) "java/lang/ArrayIndexOutOfBoundsException" tx) : W p l e R s m args below meth c H locs cells slots Q (F0 m pc ls (.int x :: .int i :: .ref a :: rest)) := by
  intro T hT X
  obtain ⟨t, st, q⟩ := k _ rfl T hT X
  refine ⟨t, ?_, q⟩
  have h1 := X.sastoreOut hexec (by rw [hT]; exact hP q0 _ ha) ((hK.2 t0 _ ht).1 n (fun j => .int (f j))) (j := i) (by show (i < 0 ∨ (arrV _ _ _).slots.size ≤ _); rw [arrV_size]; exact Classical.byContradiction hout) (g := F0 m pc ls (.int x :: .int i :: .ref a :: rest)) rfl (rest := rest) rfl (by rw [hb]; exact hdg) t
  simp only [arrV_size] at h1
  exact h1 st
theorem vx_laldZ {D : va_G} {cl : List vw_C} {ws : va_W} {tys : List (ClassId × FieldType)} {a : Nat} (hexec : p.tables.exec = Jvm.exec) (hb : c.code = cc) (hK : va_K D cl tys s) (hP : va_P D cl ws H) (q0 t0 : Nat) {cA : ClassId} {n : Nat} {f : Nat → Int64} (ha : ws[q0]? = some (a, .inl (cA, n, .inr (.inl f)))) (ht : tys[t0]? = some (cA, .long)) {i : Int32} (hout : ¬ vp_in i n) (hdg : decode cc pc = .ok (.laload, 1))
    (k : ∀ tx : String, tx = (toString "Index " ++ toString i ++ toString " out of bounds for length " ++ toString n : String) → vx_Note p l e R s m args below meth c H locs cells slots Q (F0 m pc ls rest) "java/lang/ArrayIndexOutOfBoundsException" tx) : W p l e R s m args below meth c H locs cells slots Q (F0 m pc ls (.int i :: .ref a :: rest)) := by
  intro T hT X
  obtain ⟨t, st, q⟩ := k _ rfl T hT X
  refine ⟨t, ?_, q⟩
  have h1 := X.laloadOut hexec (by rw [hT]; exact hP q0 _ ha) ((hK.2 t0 _ ht).1 n (fun j => .long (f j))) (j := i) (by show (i < 0 ∨ (arrV _ _ _).slots.size ≤ _); rw [arrV_size]; exact Classical.byContradiction hout) (g := F0 m pc ls (.int i :: .ref a :: rest)) rfl (rest := rest) rfl (by rw [hb]; exact hdg) t
  simp only [arrV_size] at h1
  exact h1 st
theorem vx_lastZ {D : va_G} {cl : List vw_C} {ws : va_W} {tys : List (ClassId × FieldType)} {a : Nat} (hexec : p.tables.exec = Jvm.exec) (hb : c.code = cc) (hK : va_K D cl tys s) (hP : va_P D cl ws H) (q0 t0 : Nat) {cA : ClassId} {n : Nat} {f : Nat → Int64} (ha : ws[q0]? = some (a, .inl (cA, n, .inr (.inl f)))) (ht : tys[t0]? = some (cA, .long)) {i : Int32} {x : Int64} (hout : ¬ vp_in i n) (hdg : decode cc pc = .ok (.lastore, 1))
    (k : ∀ tx : String, tx = (toString "Index " ++ toString i ++ toString " out of bounds for length " ++ toString n : String) → vx_Note p l e R s m args below meth c H locs cells slots Q (F0 m pc ls rest) "java/lang/ArrayIndexOutOfBoundsException" tx) : W p l e R s m args below meth c H locs cells slots Q (F0 m pc ls (.long x :: .int i :: .ref a :: rest)) := by
  intro T hT X
  obtain ⟨t, st, q⟩ := k _ rfl T hT X
  refine ⟨t, ?_, q⟩
  have h1 := X.lastoreOut hexec (by rw [hT]; exact hP q0 _ ha) ((hK.2 t0 _ ht).1 n (fun j => .long (f j))) (j := i) (by show (i < 0 ∨ (arrV _ _ _).slots.size ≤ _); rw [arrV_size]; exact Classical.byContradiction hout) (g := F0 m pc ls (.long x :: .int i :: .ref a :: rest)) rfl (rest := rest) rfl (by rw [hb]; exact hdg) t
  simp only [arrV_size] at h1
  exact h1 st
theorem vx_faldZ {D : va_G} {cl : List vw_C} {ws : va_W} {tys : List (ClassId × FieldType)} {a : Nat} (hexec : p.tables.exec = Jvm.exec) (hb : c.code = cc) (hK : va_K D cl tys s) (hP : va_P D cl ws H) (q0 t0 : Nat) {cA : ClassId} {n : Nat} {f : Nat → UInt32} (ha : ws[q0]? = some (a, .inl (cA, n, .inr (.inr (.inl f))))) (ht : tys[t0]? = some (cA, .float)) {i : Int32} (hout : ¬ vp_in i n) (hdg : decode cc pc = .ok (.faload, 1))
    (k : ∀ tx : String, tx = (toString "Index " ++ toString i ++ toString " out of bounds for length " ++ toString n : String) → vx_Note p l e R s m args below meth c H locs cells slots Q (F0 m pc ls rest) "java/lang/ArrayIndexOutOfBoundsException" tx) : W p l e R s m args below meth c H locs cells slots Q (F0 m pc ls (.int i :: .ref a :: rest)) := by
  intro T hT X
  obtain ⟨t, st, q⟩ := k _ rfl T hT X
  refine ⟨t, ?_, q⟩
  have h1 := X.faloadOut hexec (by rw [hT]; exact hP q0 _ ha) ((hK.2 t0 _ ht).1 n (fun j => .float (f j))) (j := i) (by show (i < 0 ∨ (arrV _ _ _).slots.size ≤ _); rw [arrV_size]; exact Classical.byContradiction hout) (g := F0 m pc ls (.int i :: .ref a :: rest)) rfl (rest := rest) rfl (by rw [hb]; exact hdg) t
  simp only [arrV_size] at h1
  exact h1 st
theorem vx_fastZ {D : va_G} {cl : List vw_C} {ws : va_W} {tys : List (ClassId × FieldType)} {a : Nat} (hexec : p.tables.exec = Jvm.exec) (hb : c.code = cc) (hK : va_K D cl tys s) (hP : va_P D cl ws H) (q0 t0 : Nat) {cA : ClassId} {n : Nat} {f : Nat → UInt32} (ha : ws[q0]? = some (a, .inl (cA, n, .inr (.inr (.inl f))))) (ht : tys[t0]? = some (cA, .float)) {i : Int32} {x : UInt32} (hout : ¬ vp_in i n) (hdg : decode cc pc = .ok (.fastore, 1))
    (k : ∀ tx : String, tx = (toString "Index " ++ toString i ++ toString " out of bounds for length " ++ toString n : String) → vx_Note p l e R s m args below meth c H locs cells slots Q (F0 m pc ls rest) "java/lang/ArrayIndexOutOfBoundsException" tx) : W p l e R s m args below meth c H locs cells slots Q (F0 m pc ls (.float x :: .int i :: .ref a :: rest)) := by
  intro T hT X
  obtain ⟨t, st, q⟩ := k _ rfl T hT X
  refine ⟨t, ?_, q⟩
  have h1 := X.fastoreOut hexec (by rw [hT]; exact hP q0 _ ha) ((hK.2 t0 _ ht).1 n (fun j => .float (f j))) (j := i) (by show (i < 0 ∨ (arrV _ _ _).slots.size ≤ _); rw [arrV_size]; exact Classical.byContradiction hout) (g := F0 m pc ls (.float x :: .int i :: .ref a :: rest)) rfl (rest := rest) rfl (by rw [hb]; exact hdg) t
  simp only [arrV_size] at h1
  exact h1 st
theorem vx_daldZ {D : va_G} {cl : List vw_C} {ws : va_W} {tys : List (ClassId × FieldType)} {a : Nat} (hexec : p.tables.exec = Jvm.exec) (hb : c.code = cc) (hK : va_K D cl tys s) (hP : va_P D cl ws H) (q0 t0 : Nat) {cA : ClassId} {n : Nat} {f : Nat → UInt64} (ha : ws[q0]? = some (a, .inl (cA, n, .inr (.inr (.inr (.inl f)))))) (ht : tys[t0]? = some (cA, .double)) {i : Int32} (hout : ¬ vp_in i n) (hdg : decode cc pc = .ok (.daload, 1))
    (k : ∀ tx : String, tx = (toString "Index " ++ toString i ++ toString " out of bounds for length " ++ toString n : String) → vx_Note p l e R s m args below meth c H locs cells slots Q (F0 m pc ls rest) "java/lang/ArrayIndexOutOfBoundsException" tx) : W p l e R s m args below meth c H locs cells slots Q (F0 m pc ls (.int i :: .ref a :: rest)) := by
  intro T hT X
  obtain ⟨t, st, q⟩ := k _ rfl T hT X
  refine ⟨t, ?_, q⟩
  have h1 := X.daloadOut hexec (by rw [hT]; exact hP q0 _ ha) ((hK.2 t0 _ ht).1 n (fun j => .double (f j))) (j := i) (by show (i < 0 ∨ (arrV _ _ _).slots.size ≤ _); rw [arrV_size]; exact Classical.byContradiction hout) (g := F0 m pc ls (.int i :: .ref a :: rest)) rfl (rest := rest) rfl (by rw [hb]; exact hdg) t
  simp only [arrV_size] at h1
  exact h1 st
theorem vx_dastZ {D : va_G} {cl : List vw_C} {ws : va_W} {tys : List (ClassId × FieldType)} {a : Nat} (hexec : p.tables.exec = Jvm.exec) (hb : c.code = cc) (hK : va_K D cl tys s) (hP : va_P D cl ws H) (q0 t0 : Nat) {cA : ClassId} {n : Nat} {f : Nat → UInt64} (ha : ws[q0]? = some (a, .inl (cA, n, .inr (.inr (.inr (.inl f)))))) (ht : tys[t0]? = some (cA, .double)) {i : Int32} {x : UInt64} (hout : ¬ vp_in i n) (hdg : decode cc pc = .ok (.dastore, 1))
    (k : ∀ tx : String, tx = (toString "Index " ++ toString i ++ toString " out of bounds for length " ++ toString n : String) → vx_Note p l e R s m args below meth c H locs cells slots Q (F0 m pc ls rest) "java/lang/ArrayIndexOutOfBoundsException" tx) : W p l e R s m args below meth c H locs cells slots Q (F0 m pc ls (.double x :: .int i :: .ref a :: rest)) := by
  intro T hT X
  obtain ⟨t, st, q⟩ := k _ rfl T hT X
  refine ⟨t, ?_, q⟩
  have h1 := X.dastoreOut hexec (by rw [hT]; exact hP q0 _ ha) ((hK.2 t0 _ ht).1 n (fun j => .double (f j))) (j := i) (by show (i < 0 ∨ (arrV _ _ _).slots.size ≤ _); rw [arrV_size]; exact Classical.byContradiction hout) (g := F0 m pc ls (.double x :: .int i :: .ref a :: rest)) rfl (rest := rest) rfl (by rw [hb]; exact hdg) t
  simp only [arrV_size] at h1
  exact h1 st
theorem vx_arraylengthN (hexec : p.tables.exec = Jvm.exec) (hb : c.code = cc) (hdg : decode cc pc = .ok (.arraylength, 1)) (k : vx_NoteN p l e R s m args below meth c H locs cells slots Q (F0 m pc ls rest)) : W p l e R s m args below meth c H locs cells slots Q (F0 m pc ls (.null :: rest)) := by
  intro T hT X
  obtain ⟨t, st, q⟩ := k T hT X
  exact ⟨t, X.arraylengthNull hexec (g := F0 m pc ls (.null :: rest)) rfl (rest := rest) rfl (by rw [hb]; exact hdg) t st, q⟩
theorem vx_ialoadN (hexec : p.tables.exec = Jvm.exec) (hb : c.code = cc) {i : Int32} (hdg : decode cc pc = .ok (.iaload, 1)) (k : vx_NoteN p l e R s m args below meth c H locs cells slots Q (F0 m pc ls rest)) : W p l e R s m args below meth c H locs cells slots Q (F0 m pc ls (.int i :: .null :: rest)) := by
  intro T hT X
  obtain ⟨t, st, q⟩ := k T hT X
  exact ⟨t, X.ialoadNull hexec (g := F0 m pc ls (.int i :: .null :: rest)) rfl (rest := rest) rfl (by rw [hb]; exact hdg) t st, q⟩
theorem vx_laloadN (hexec : p.tables.exec = Jvm.exec) (hb : c.code = cc) {i : Int32} (hdg : decode cc pc = .ok (.laload, 1)) (k : vx_NoteN p l e R s m args below meth c H locs cells slots Q (F0 m pc ls rest)) : W p l e R s m args below meth c H locs cells slots Q (F0 m pc ls (.int i :: .null :: rest)) := by
  intro T hT X
  obtain ⟨t, st, q⟩ := k T hT X
  exact ⟨t, X.laloadNull hexec (g := F0 m pc ls (.int i :: .null :: rest)) rfl (rest := rest) rfl (by rw [hb]; exact hdg) t st, q⟩
theorem vx_faloadN (hexec : p.tables.exec = Jvm.exec) (hb : c.code = cc) {i : Int32} (hdg : decode cc pc = .ok (.faload, 1)) (k : vx_NoteN p l e R s m args below meth c H locs cells slots Q (F0 m pc ls rest)) : W p l e R s m args below meth c H locs cells slots Q (F0 m pc ls (.int i :: .null :: rest)) := by
  intro T hT X
  obtain ⟨t, st, q⟩ := k T hT X
  exact ⟨t, X.faloadNull hexec (g := F0 m pc ls (.int i :: .null :: rest)) rfl (rest := rest) rfl (by rw [hb]; exact hdg) t st, q⟩
theorem vx_daloadN (hexec : p.tables.exec = Jvm.exec) (hb : c.code = cc) {i : Int32} (hdg : decode cc pc = .ok (.daload, 1)) (k : vx_NoteN p l e R s m args below meth c H locs cells slots Q (F0 m pc ls rest)) : W p l e R s m args below meth c H locs cells slots Q (F0 m pc ls (.int i :: .null :: rest)) := by
  intro T hT X
  obtain ⟨t, st, q⟩ := k T hT X
  exact ⟨t, X.daloadNull hexec (g := F0 m pc ls (.int i :: .null :: rest)) rfl (rest := rest) rfl (by rw [hb]; exact hdg) t st, q⟩
theorem vx_aaloadN (hexec : p.tables.exec = Jvm.exec) (hb : c.code = cc) {i : Int32} (hdg : decode cc pc = .ok (.aaload, 1)) (k : vx_NoteN p l e R s m args below meth c H locs cells slots Q (F0 m pc ls rest)) : W p l e R s m args below meth c H locs cells slots Q (F0 m pc ls (.int i :: .null :: rest)) := by
  intro T hT X
  obtain ⟨t, st, q⟩ := k T hT X
  exact ⟨t, X.aaloadNull hexec (g := F0 m pc ls (.int i :: .null :: rest)) rfl (rest := rest) rfl (by rw [hb]; exact hdg) t st, q⟩
theorem vx_baloadN (hexec : p.tables.exec = Jvm.exec) (hb : c.code = cc) {i : Int32} (hdg : decode cc pc = .ok (.baload, 1)) (k : vx_NoteN p l e R s m args below meth c H locs cells slots Q (F0 m pc ls rest)) : W p l e R s m args below meth c H locs cells slots Q (F0 m pc ls (.int i :: .null :: rest)) := by
  intro T hT X
  obtain ⟨t, st, q⟩ := k T hT X
  exact ⟨t, X.baloadNull hexec (g := F0 m pc ls (.int i :: .null :: rest)) rfl (rest := rest) rfl (by rw [hb]; exact hdg) t st, q⟩
theorem vx_caloadN (hexec : p.tables.exec = Jvm.exec) (hb : c.code = cc) {i : Int32} (hdg : decode cc pc = .ok (.caload, 1)) (k : vx_NoteN p l e R s m args below meth c H locs cells slots Q (F0 m pc ls rest)) : W p l e R s m args below meth c H locs cells slots Q (F0 m pc ls (.int i :: .null :: rest)) := by
  intro T hT X
  obtain ⟨t, st, q⟩ := k T hT X
  exact ⟨t, X.caloadNull hexec (g := F0 m pc ls (.int i :: .null :: rest)) rfl (rest := rest) rfl (by rw [hb]; exact hdg) t st, q⟩
theorem vx_saloadN (hexec : p.tables.exec = Jvm.exec) (hb : c.code = cc) {i : Int32} (hdg : decode cc pc = .ok (.saload, 1)) (k : vx_NoteN p l e R s m args below meth c H locs cells slots Q (F0 m pc ls rest)) : W p l e R s m args below meth c H locs cells slots Q (F0 m pc ls (.int i :: .null :: rest)) := by
  intro T hT X
  obtain ⟨t, st, q⟩ := k T hT X
  exact ⟨t, X.saloadNull hexec (g := F0 m pc ls (.int i :: .null :: rest)) rfl (rest := rest) rfl (by rw [hb]; exact hdg) t st, q⟩
theorem vx_iastoreN (hexec : p.tables.exec = Jvm.exec) (hb : c.code = cc) {x : Int32} {i : Int32} (hdg : decode cc pc = .ok (.iastore, 1)) (k : vx_NoteN p l e R s m args below meth c H locs cells slots Q (F0 m pc ls rest)) : W p l e R s m args below meth c H locs cells slots Q (F0 m pc ls (.int x :: .int i :: .null :: rest)) := by
  intro T hT X
  obtain ⟨t, st, q⟩ := k T hT X
  exact ⟨t, X.iastoreNull hexec (g := F0 m pc ls (.int x :: .int i :: .null :: rest)) rfl (rest := rest) rfl (by rw [hb]; exact hdg) t st, q⟩
theorem vx_lastoreN (hexec : p.tables.exec = Jvm.exec) (hb : c.code = cc) {x : Int64} {i : Int32} (hdg : decode cc pc = .ok (.lastore, 1)) (k : vx_NoteN p l e R s m args below meth c H locs cells slots Q (F0 m pc ls rest)) : W p l e R s m args below meth c H locs cells slots Q (F0 m pc ls (.long x :: .int i :: .null :: rest)) := by
  intro T hT X
  obtain ⟨t, st, q⟩ := k T hT X
  exact ⟨t, X.lastoreNull hexec (g := F0 m pc ls (.long x :: .int i :: .null :: rest)) rfl (rest := rest) rfl (by rw [hb]; exact hdg) t st, q⟩
theorem vx_fastoreN (hexec : p.tables.exec = Jvm.exec) (hb : c.code = cc) {x : UInt32} {i : Int32} (hdg : decode cc pc = .ok (.fastore, 1)) (k : vx_NoteN p l e R s m args below meth c H locs cells slots Q (F0 m pc ls rest)) : W p l e R s m args below meth c H locs cells slots Q (F0 m pc ls (.float x :: .int i :: .null :: rest)) := by
  intro T hT X
  obtain ⟨t, st, q⟩ := k T hT X
  exact ⟨t, X.fastoreNull hexec (g := F0 m pc ls (.float x :: .int i :: .null :: rest)) rfl (rest := rest) rfl (by rw [hb]; exact hdg) t st, q⟩
theorem vx_dastoreN (hexec : p.tables.exec = Jvm.exec) (hb : c.code = cc) {x : UInt64} {i : Int32} (hdg : decode cc pc = .ok (.dastore, 1)) (k : vx_NoteN p l e R s m args below meth c H locs cells slots Q (F0 m pc ls rest)) : W p l e R s m args below meth c H locs cells slots Q (F0 m pc ls (.double x :: .int i :: .null :: rest)) := by
  intro T hT X
  obtain ⟨t, st, q⟩ := k T hT X
  exact ⟨t, X.dastoreNull hexec (g := F0 m pc ls (.double x :: .int i :: .null :: rest)) rfl (rest := rest) rfl (by rw [hb]; exact hdg) t st, q⟩
theorem vx_bastoreN (hexec : p.tables.exec = Jvm.exec) (hb : c.code = cc) {x : Int32} {i : Int32} (hdg : decode cc pc = .ok (.bastore, 1)) (k : vx_NoteN p l e R s m args below meth c H locs cells slots Q (F0 m pc ls rest)) : W p l e R s m args below meth c H locs cells slots Q (F0 m pc ls (.int x :: .int i :: .null :: rest)) := by
  intro T hT X
  obtain ⟨t, st, q⟩ := k T hT X
  exact ⟨t, X.bastoreNull hexec (g := F0 m pc ls (.int x :: .int i :: .null :: rest)) rfl (rest := rest) rfl (by rw [hb]; exact hdg) t st, q⟩
theorem vx_castoreN (hexec : p.tables.exec = Jvm.exec) (hb : c.code = cc) {x : Int32} {i : Int32} (hdg : decode cc pc = .ok (.castore, 1)) (k : vx_NoteN p l e R s m args below meth c H locs cells slots Q (F0 m pc ls rest)) : W p l e R s m args below meth c H locs cells slots Q (F0 m pc ls (.int x :: .int i :: .null :: rest)) := by
  intro T hT X
  obtain ⟨t, st, q⟩ := k T hT X
  exact ⟨t, X.castoreNull hexec (g := F0 m pc ls (.int x :: .int i :: .null :: rest)) rfl (rest := rest) rfl (by rw [hb]; exact hdg) t st, q⟩
theorem vx_sastoreN (hexec : p.tables.exec = Jvm.exec) (hb : c.code = cc) {x : Int32} {i : Int32} (hdg : decode cc pc = .ok (.sastore, 1)) (k : vx_NoteN p l e R s m args below meth c H locs cells slots Q (F0 m pc ls rest)) : W p l e R s m args below meth c H locs cells slots Q (F0 m pc ls (.int x :: .int i :: .null :: rest)) := by
  intro T hT X
  obtain ⟨t, st, q⟩ := k T hT X
  exact ⟨t, X.sastoreNull hexec (g := F0 m pc ls (.int x :: .int i :: .null :: rest)) rfl (rest := rest) rfl (by rw [hb]; exact hdg) t st, q⟩
theorem vx_invokeN {own C : String} {index maxL : Nat} {y : MethodName} {bytes : ByteArray} {ret : Option FieldType} (hexec : p.tables.exec = Jvm.exec) (hb : c.code = cc) (hown : s.vm.findClass own = some m.cls) (hlink : (Cond.methodLink own index y).before args s = true) (hinst : (Cond.instanceMethod y).before args s = true) (hcode : (Cond.code y bytes maxL ret).before args s = true) (hsel : (Cond.selects C y y).before args s = true)
    (hx : y.cls ≠ "java/lang/invoke/MethodHandle" ∧ y.cls ≠ "java/lang/invoke/VarHandle") {As : List Value} (hlen : (parseMethodDescriptor y.desc).map (fun d => d.parameters.length) = some As.length) (hdg : decode cc pc = .ok (.invokevirtual index, 3))
    (k : vx_NoteN p l e R s m args below meth c H locs cells slots Q (F0 m pc ls rest)) {st0 : List Value} (hst : st0 = As.reverse ++ .null :: rest) : W p l e R s m args below meth c H locs cells slots Q (F0 m pc ls st0) := by
  intro T hT X
  obtain ⟨r0, r, hn, hrm, hstR, hsigR⟩ := va_Decl.of hinst hcode
  obtain ⟨c2, r2, m2, q1, q2, q3, q4, kP, hkP, hkPi⟩ := Cond.selects_spec hsel
  cases hn.symm.trans q3
  have hl9 : As.length = r.sig.parameters.length := by
    rw [hsigR] at hlen
    exact (Option.some.inj hlen).symm
  obtain ⟨vm', X1, st1⟩ := X.invokevirtualNull hexec hown hlink hn hrm hstR hkP hkPi hx (g := F0 m pc ls st0) rfl (argsL := As) (rest := rest) hl9 hst (by rw [hb]; exact hdg)
  obtain ⟨t, st, q⟩ := k (T.setVm vm') hT X1
  exact ⟨t, st1 t st, q⟩
theorem vx_newarrayZ {atype : ArrayType} (hexec : p.tables.exec = Jvm.exec) (hb : c.code = cc) {n : Int32} (h0 : n < 0) (hdg : decode cc pc = .ok (.newarray atype, 2)) (k : ∀ tx : String, tx = toString n → vx_Note p l e R s m args below meth c H locs cells slots Q (F0 m pc ls rest) "java/lang/NegativeArraySizeException" tx) : W p l e R s m args below meth c H locs cells slots Q (F0 m pc ls (.int n :: rest)) := by
  intro T hT X
  obtain ⟨t, st, q⟩ := k _ rfl T hT X
  exact ⟨t, X.newarrayNegative hexec (g := F0 m pc ls (.int n :: rest)) rfl h0 (rest := rest) rfl (by rw [hb]; exact hdg) t st, q⟩
end
end VXM
/-! ===== END ===== -/
/-! ===== BEGIN an exception as an object: made, kept, thrown later (no traces kept) ===== -/
section VXK
variable {p : Program} {l : Launch} {e : Env} {R : Room} {s : State} {m₀ : MethodId} {args : Array Value} {below : List Frame} {meth : Method} {c : Code} {W : State} {locs : List Loc} {cells slots : Nat}
set_option maxHeartbeats 1000000 in
theorem vx_ctorMadeS (X : Stand p l e R s m₀ args below meth c W locs cells slots) (hexec : p.tables.exec = Jvm.exec) (htr : e.platform.stackTraces = false) {own cls : String} {names : List String} {ic : Nat}
    (hown : s.vm.findClass own = some m₀.cls) (hcls : Bundle.fit cls = true) (hnames : ∀ n ∈ names, Bundle.fit n = true)
    (h : ∀ a ∈ Bundle.ownAtoms own ic cls names, a.before args s = true)
    (hlocs : ∀ x ∈ locs, ∀ cell, s.heap[x.base]? = some cell → cell.vm.isStatics = false)
    {a : Addr} {cX : ClassId} {kX : Class} (hfoundX : s.vm.findClass cls = some cX) (hkX : s.vm.classes[cX]? = some kX) (hcell : W.heap[a]? = some (freshCell cX kX)) (hnew : s.heap.size ≤ a)
    {msg : Value} (hmsg : msg.isRef = true)
    {g : JFrame} (hg : g.method = m₀) (hsize : g.locals.size = c.maxLocals) {rest : List Value} (hstack : g.stack = msg :: .ref a :: .ref a :: rest)
    (hd6 : decode c.code g.pc = .ok (.invokespecial ic, 3))
    (hRframes : names.length + 3 < R.frames) (hRlocals : 2 * g.monitorRoom + ((Value.ref a :: rest).map fun v => v.category).sum + (13 * (names.length + 1) + 42) ≤ R.locals) :
    ∃ (V : State) (ce : Cell) (L : List Loc), Stand p l e R s m₀ args below meth c (V.setCell a ce) (locs ++ L) cells slots ∧ (∀ y ∈ L, y.base = a) ∧ a < V.heap.size ∧ ce.cls = cX ∧ ce.vm = .none ∧
      ∀ target, Steps p.tables e below ((V.setCell a ce).setTop { g with stack := .ref a :: rest, pc := g.pc + 3 }) target → Steps p.tables e below (W.setTop g) target := by
  have howns : e.platform.frameOwnsMonitors = true := by rw [X.admits.platform]
  have hfin : e.platform.finalization = false := by rw [X.admits.platform]
  have hpl : e.platform.magicAccessors = ({} : Platform).magicAccessors := by rw [X.admits.platform]
  have a' : ∀ x, x ∈ Bundle.ownAtoms own ic cls names → x.holds args s none s [] = true := fun x hx => h x hx
  obtain ⟨T, Z0, L, -, Y⟩ := ThrowableC.of_atoms (args := args) howns hfin hpl (fun x hx => h x (by simp [Bundle.ownAtoms, hx]))
  obtain ⟨Z, M, LZ, LM, hnZ⟩ := Init0T.ofS_atoms (args := args) hpl L Y (fun x hx => h x (by simp [Bundle.ownAtoms, hx]))
  obtain ⟨P1, Ps, hlen, L1, hL, hP1m, hlink1, hlink⟩ := Bundle.chainS (args := args) hpl hnZ names cls hcls hnames (fun x hx => h x (by simp [Bundle.ownAtoms, hx]))
  have hfound : s.vm.findClass cls = some P1.m.cls := findClass_of_methodNamed hP1m
  cases Option.some.inj (hfoundX.symm.trans hfound)
  obtain ⟨c1, kX', hc1, hk, hord, -, -, hn6⟩ := Cond.instantiable_spec (a' (.instantiable cls 6) (by simp [Bundle.ownAtoms]))
  cases Option.some.inj (hc1.symm.trans hfound)
  cases Option.some.inj (hkX.symm.trans hk)
  have hsel0 : selectMethod e.platform s.vm P1.m.cls T.fill0 = .method T.fill0 := by
    obtain ⟨c2, r2, m2, q1, q2, q3, q4, -⟩ := Cond.selects_spec (a' (.selects cls Bundle.tFill0 Bundle.tFill0) (by simp [Bundle.ownAtoms]))
    cases Option.some.inj (q1.symm.trans hfound)
    cases Option.some.inj (q2.symm.trans (State.methodFound?_of_named Y.fill0 (by decide)))
    cases Option.some.inj (q3.symm.trans Y.fill0)
    rw [Launch.admits_selectMethod X.admits]; exact q4
  have hselF : selectMethod e.platform s.vm P1.m.cls T.fill = .method T.fill := by
    obtain ⟨c2, r2, m2, q1, q2, q3, q4, -⟩ := Cond.selects_spec (a' (.selects cls Bundle.tFill Bundle.tFill) (by simp [Bundle.ownAtoms]))
    cases Option.some.inj (q1.symm.trans hfound)
    cases Option.some.inj (q2.symm.trans (State.methodFound?_of_named Y.fill (by decide)))
    cases Option.some.inj (q3.symm.trans Y.fill)
    rw [Launch.admits_selectMethod X.admits]; exact q4
  obtain ⟨cellS0, hcS0, hiss⟩ := Y.statics
  obtain ⟨u0, hu0⟩ := Cond.staticRefV Y.unassigned L.unassignedStatic L.statics hcS0 hiss (a' (.isRef (.static Bundle.tN "UNASSIGNED_STACK" Bundle.steD)) (by simp [Bundle.ownAtoms]))
  obtain ⟨sen, hsen⟩ := Cond.staticRefV Y.sentinel L.sentinelStatic L.statics hcS0 hiss (a' (.isRef (.static Bundle.tN "SUPPRESSED_SENTINEL" Bundle.listD)) (by simp [Bundle.ownAtoms]))
  obtain ⟨ci198, i198, fB, hk198, hg198, ha198, hsB, -, hnB, htB, hffB⟩ := Cond.ownField (t := .object "java/lang/Object") Y.found L.cls (by decide +kernel) (a' (.fieldLink Bundle.tN 198 Bundle.tN "backtrace" "Ljava/lang/Object;") (by simp [Bundle.ownAtoms])) (a' (.lays Bundle.tN Bundle.tN "backtrace" "Ljava/lang/Object;") (by simp [Bundle.ownAtoms])) e.platform hpl
  obtain ⟨cellS, hcS', heS, -, hkeep⟩ := X.same.2.2.2.2.2 T.aS cellS0 hcS0
  have hcellS : W.heap[T.aS]? = some cellS := hcS'
  have hout' : ∀ i, (⟨T.aS, i⟩ : Loc) ∉ locs := fun i hmem => by
    have := hlocs _ hmem cellS0 hcS0
    rw [hiss] at this; cases this
  have hknownS : cellS.vm ≠ .unknown := by
    rw [heS]; intro hu
    rw [show cellS0.vm = .unknown from hu] at hiss
    cases hiss
  have hneS : T.aS ≠ a := Nat.ne_of_lt (Nat.lt_of_lt_of_le (Array.getElem?_eq_some_iff.mp hcS0).1 hnew)
  obtain ⟨iM, hffM⟩ := Y.msg
  obtain ⟨tyC, dC, hdC, hdnC⟩ := Cond.laysAt hfound hk Y.cause (a' (.lays cls Bundle.tN "cause" "Ljava/lang/Throwable;") (by simp [Bundle.ownAtoms]))
  obtain ⟨tyS, dS, hdS, hdnS⟩ := Cond.laysAt hfound hk Y.stack (a' (.lays cls Bundle.tN "stackTrace" Bundle.steD) (by simp [Bundle.ownAtoms]))
  obtain ⟨tyP, dP, hdP, hdnP⟩ := Cond.laysAt hfound hk Y.supp (a' (.lays cls Bundle.tN "suppressedExceptions" Bundle.listD) (by simp [Bundle.ownAtoms]))
  obtain ⟨tyM, dM, hdM, hdnM⟩ := Cond.laysAt hfound hk hffM (a' (.lays cls Bundle.tN "detailMessage" "Ljava/lang/String;") (by simp [Bundle.ownAtoms]))
  obtain ⟨tyB, dB, hdB, hdnB⟩ := Cond.laysAt hfound hk hffB (a' (.lays cls Bundle.tN "backtrace" "Ljava/lang/Object;") (by simp [Bundle.ownAtoms]))
  have bC := Cond.laysApart hdB hdC hdnB hdnC (by rw [hnB, Y.causeName]; decide)
  have bS := Cond.laysApart hdB hdS hdnB hdnS (by rw [hnB, Y.stackName]; decide)
  have bP := Cond.laysApart hdB hdP hdnB hdnP (by rw [hnB, Y.suppName]; decide)
  have hskip : SkipFacts T e.platform s (fun u => u) u0 ((preparedCellV T.toThrowableT (freshCell P1.m.cls kX) a u0 sen).withEntry W.cur) :=
    ⟨{ ci198 := ci198, i198 := i198, fBack := fB }, ⟨hk198, hg198, ha198, hsB⟩, by
      have := fresh_default (c := P1.m.cls) tyB
      rw [htB] at this
      simpa [preparedCellV, Cell.setSlot, Cell.withEntry, Array.getElem?_setIfInBounds, bC, bS, bP, bC.symm, bS.symm, bP.symm, defaultValue] using this, fun _ _ => rfl⟩
  obtain ⟨tm, methC, cdC, kC, vm₁, hnC, -, -, -, -, -, -, -, hW₁, st1⟩ := Steps.initColdS (tb := p.tables) (e := e) (below := below) (s := s) (U := W) X.here hexec X.warmed hpl hown (t := Bundle.initS cls) rfl rfl (Bundle.fit_spec hcls).2
    (a' (.methodLink own ic (Bundle.initS cls)) (by simp [Bundle.ownAtoms])) (h (.instanceMethod (Bundle.initS cls)) (by cases names <;> simp [Bundle.ownAtoms, Bundle.chainSAtoms, Bundle.passSAtoms])) (bytes := Bundle.six) (maxL := 2) (h (.code (Bundle.initS cls) Bundle.six 2 none) (by cases names <;> simp [Bundle.ownAtoms, Bundle.chainSAtoms, Bundle.passSAtoms]))
    (f := g) hg (a := a) (msg := msg) (rest := .ref a :: rest) hstack hd6
  cases Option.some.inj (hnC.symm.trans hP1m)
  have X₁ := X.noted hW₁
  obtain ⟨vm₂, X₂, st2⟩ := X₁.ctorMessageOffV hexec (g := { g with stack := .ref a :: rest }) hg hsize T L Z LZ M LM (P1 :: Ps)
    (fun P hP => by rcases List.mem_cons.mp hP with rfl | hP; exact L1; exact hL P hP) ⟨hlink1, hlink⟩ (u0 := u0) (sen := sen) (self := a) hmsg (cell := freshCell P1.m.cls kX) (cellS := cellS)
    hcell (fun _ => by simp) (by simp) rfl rfl hsel0 hselF hcellS hneS hknownS (by rw [hkeep _ (hout' _)]; exact hu0) (by rw [hkeep _ (hout' _)]; exact hsen)
    (Takes.of_laid hk hord tyC (by rw [Y.causeType]; rfl)) (Takes.of_laid hk hord tyS (by rw [Y.stackType]; exact fits_refV_array _ u0)) (Takes.of_laid hk hord tyP (by rw [Y.suppType]; exact fits_refV_object _ sen))
    (Takes.of_laid hk hord tyM (by rw [Y.msgType]; exact fits_refV_object _ ⟨msg, hmsg⟩)) Y.objLocals hskip htr [] hd6
    (by simp only [List.length_cons, hlen]; omega) (by simp only [List.length_cons, hlen]; exact hRlocals)
  have hlt : a < ((W.setVm vm₁).setVm vm₂).heap.size := (Array.getElem?_eq_some_iff.mp hcell).1
  refine ⟨(W.setVm vm₁).setVm vm₂, _, _, X₂, fun y hy => ?_, hlt, rfl, rfl, fun target hwalk => st1 _ (fun acts => ?_)⟩
  · simp only [List.mem_cons, List.not_mem_nil, or_false] at hy
    rcases hy with rfl | rfl | rfl | rfl | rfl <;> rfl
  · rw [doInvoke_state]
    exact st2 _ hwalk
set_option maxHeartbeats 1000000 in
theorem vx_ctorMade0 (X : Stand p l e R s m₀ args below meth c W locs cells slots) (hexec : p.tables.exec = Jvm.exec) (htr : e.platform.stackTraces = false) {own cls : String} {names : List String} {ic : Nat}
    (hown : s.vm.findClass own = some m₀.cls) (hcls : Bundle.fit cls = true) (hnames : ∀ n ∈ names, Bundle.fit n = true)
    (h : ∀ a ∈ Bundle.ownAtoms0 own ic cls names, a.before args s = true)
    (hlocs : ∀ x ∈ locs, ∀ cell, s.heap[x.base]? = some cell → cell.vm.isStatics = false)
    {a : Addr} {cX : ClassId} {kX : Class} (hfoundX : s.vm.findClass cls = some cX) (hkX : s.vm.classes[cX]? = some kX) (hcell : W.heap[a]? = some (freshCell cX kX)) (hnew : s.heap.size ≤ a)
    {g : JFrame} (hg : g.method = m₀) (hsize : g.locals.size = c.maxLocals) {rest : List Value} (hstack : g.stack = .ref a :: .ref a :: rest)
    (hd6 : decode c.code g.pc = .ok (.invokespecial ic, 3))
    (hRframes : names.length + 3 < R.frames) (hRlocals : 2 * g.monitorRoom + ((Value.ref a :: rest).map fun v => v.category).sum + (13 * (names.length + 1) + 41) ≤ R.locals) :
    ∃ (V : State) (ce : Cell) (L : List Loc), Stand p l e R s m₀ args below meth c (V.setCell a ce) (locs ++ L) cells slots ∧ (∀ y ∈ L, y.base = a) ∧ a < V.heap.size ∧ ce.cls = cX ∧ ce.vm = .none ∧
      ∀ target, Steps p.tables e below ((V.setCell a ce).setTop { g with stack := .ref a :: rest, pc := g.pc + 3 }) target → Steps p.tables e below (W.setTop g) target := by
  have howns : e.platform.frameOwnsMonitors = true := by rw [X.admits.platform]
  have hfin : e.platform.finalization = false := by rw [X.admits.platform]
  have hpl : e.platform.magicAccessors = ({} : Platform).magicAccessors := by rw [X.admits.platform]
  have a' : ∀ x, x ∈ Bundle.ownAtoms0 own ic cls names → x.holds args s none s [] = true := fun x hx => h x hx
  obtain ⟨T, Z, L, LZ, Y⟩ := ThrowableC.of_atoms (args := args) howns hfin hpl (fun x hx => h x (by simp [Bundle.ownAtoms0, hx]))
  obtain ⟨P1, Ps, hlen, L1, hL, hP1m, hlink1, hlink⟩ := Bundle.chain0 (args := args) hpl Y.init0 names cls hcls hnames (fun x hx => h x (by simp [Bundle.ownAtoms0, hx]))
  have hfound : s.vm.findClass cls = some P1.m.cls := findClass_of_methodNamed hP1m
  cases Option.some.inj (hfoundX.symm.trans hfound)
  obtain ⟨c1, kX', hc1, hk, hord, -, -, hn6⟩ := Cond.instantiable_spec (a' (.instantiable cls 6) (by simp [Bundle.ownAtoms0]))
  cases Option.some.inj (hc1.symm.trans hfound)
  cases Option.some.inj (hkX.symm.trans hk)
  have hsel0 : selectMethod e.platform s.vm P1.m.cls T.fill0 = .method T.fill0 := by
    obtain ⟨c2, r2, m2, q1, q2, q3, q4, -⟩ := Cond.selects_spec (a' (.selects cls Bundle.tFill0 Bundle.tFill0) (by simp [Bundle.ownAtoms0]))
    cases Option.some.inj (q1.symm.trans hfound)
    cases Option.some.inj (q2.symm.trans (State.methodFound?_of_named Y.fill0 (by decide)))
    cases Option.some.inj (q3.symm.trans Y.fill0)
    rw [Launch.admits_selectMethod X.admits]; exact q4
  have hselF : selectMethod e.platform s.vm P1.m.cls T.fill = .method T.fill := by
    obtain ⟨c2, r2, m2, q1, q2, q3, q4, -⟩ := Cond.selects_spec (a' (.selects cls Bundle.tFill Bundle.tFill) (by simp [Bundle.ownAtoms0]))
    cases Option.some.inj (q1.symm.trans hfound)
    cases Option.some.inj (q2.symm.trans (State.methodFound?_of_named Y.fill (by decide)))
    cases Option.some.inj (q3.symm.trans Y.fill)
    rw [Launch.admits_selectMethod X.admits]; exact q4
  obtain ⟨cellS0, hcS0, hiss⟩ := Y.statics
  obtain ⟨u0, hu0⟩ := Cond.staticRefV Y.unassigned L.unassignedStatic L.statics hcS0 hiss (a' (.isRef (.static Bundle.tN "UNASSIGNED_STACK" Bundle.steD)) (by simp [Bundle.ownAtoms0]))
  obtain ⟨sen, hsen⟩ := Cond.staticRefV Y.sentinel L.sentinelStatic L.statics hcS0 hiss (a' (.isRef (.static Bundle.tN "SUPPRESSED_SENTINEL" Bundle.listD)) (by simp [Bundle.ownAtoms0]))
  obtain ⟨ci198, i198, fB, hk198, hg198, ha198, hsB, -, hnB, htB, hffB⟩ := Cond.ownField (t := .object "java/lang/Object") Y.found L.cls (by decide +kernel) (a' (.fieldLink Bundle.tN 198 Bundle.tN "backtrace" "Ljava/lang/Object;") (by simp [Bundle.ownAtoms0])) (a' (.lays Bundle.tN Bundle.tN "backtrace" "Ljava/lang/Object;") (by simp [Bundle.ownAtoms0])) e.platform hpl
  obtain ⟨cellS, hcS', heS, -, hkeep⟩ := X.same.2.2.2.2.2 T.aS cellS0 hcS0
  have hcellS : W.heap[T.aS]? = some cellS := hcS'
  have hout' : ∀ i, (⟨T.aS, i⟩ : Loc) ∉ locs := fun i hmem => by
    have := hlocs _ hmem cellS0 hcS0
    rw [hiss] at this; cases this
  have hknownS : cellS.vm ≠ .unknown := by
    rw [heS]; intro hu
    rw [show cellS0.vm = .unknown from hu] at hiss
    cases hiss
  have hneS : T.aS ≠ a := Nat.ne_of_lt (Nat.lt_of_lt_of_le (Array.getElem?_eq_some_iff.mp hcS0).1 hnew)
  obtain ⟨iM, hffM⟩ := Y.msg
  obtain ⟨tyC, dC, hdC, hdnC⟩ := Cond.laysAt hfound hk Y.cause (a' (.lays cls Bundle.tN "cause" "Ljava/lang/Throwable;") (by simp [Bundle.ownAtoms0]))
  obtain ⟨tyS, dS, hdS, hdnS⟩ := Cond.laysAt hfound hk Y.stack (a' (.lays cls Bundle.tN "stackTrace" Bundle.steD) (by simp [Bundle.ownAtoms0]))
  obtain ⟨tyP, dP, hdP, hdnP⟩ := Cond.laysAt hfound hk Y.supp (a' (.lays cls Bundle.tN "suppressedExceptions" Bundle.listD) (by simp [Bundle.ownAtoms0]))
  obtain ⟨tyM, dM, hdM, hdnM⟩ := Cond.laysAt hfound hk hffM (a' (.lays cls Bundle.tN "detailMessage" "Ljava/lang/String;") (by simp [Bundle.ownAtoms0]))
  obtain ⟨tyB, dB, hdB, hdnB⟩ := Cond.laysAt hfound hk hffB (a' (.lays cls Bundle.tN "backtrace" "Ljava/lang/Object;") (by simp [Bundle.ownAtoms0]))
  have bC := Cond.laysApart hdB hdC hdnB hdnC (by rw [hnB, Y.causeName]; decide)
  have bS := Cond.laysApart hdB hdS hdnB hdnS (by rw [hnB, Y.stackName]; decide)
  have bP := Cond.laysApart hdB hdP hdnB hdnP (by rw [hnB, Y.suppName]; decide)
  have hskip : SkipFacts T e.platform s (fun u => u) u0 ((preparedCellV T.toThrowableT (freshCell P1.m.cls kX) a u0 sen).withEntry W.cur) :=
    ⟨{ ci198 := ci198, i198 := i198, fBack := fB }, ⟨hk198, hg198, ha198, hsB⟩, by
      have := fresh_default (c := P1.m.cls) tyB
      rw [htB] at this
      simpa [preparedCellV, Cell.setSlot, Cell.withEntry, Array.getElem?_setIfInBounds, bC, bS, bP, bC.symm, bS.symm, bP.symm, defaultValue] using this, fun _ _ => rfl⟩
  obtain ⟨tm, methC, cdC, kC, vm₁, hnC, -, -, -, -, -, -, -, hW₁, st1⟩ := Steps.initCold (tb := p.tables) (e := e) (below := below) (s := s) (U := W) X.here hexec X.warmed hpl hown (t := Bundle.init0 cls) rfl rfl (Bundle.fit_spec hcls).2
    (a' (.methodLink own ic (Bundle.init0 cls)) (by simp [Bundle.ownAtoms0])) (h (.instanceMethod (Bundle.init0 cls)) (by cases names <;> simp [Bundle.ownAtoms0, Bundle.chain0Atoms, Bundle.passAtoms])) (bytes := Bundle.five) (maxL := 1) (h (.code (Bundle.init0 cls) Bundle.five 1 none) (by cases names <;> simp [Bundle.ownAtoms0, Bundle.chain0Atoms, Bundle.passAtoms]))
    (f := g) hg (a := a) (rest := .ref a :: rest) hstack hd6
  cases Option.some.inj (hnC.symm.trans hP1m)
  have X₁ := X.noted hW₁
  obtain ⟨vm₂, X₂, st2⟩ := X₁.ctorPlainOffV hexec (g := { g with stack := .ref a :: rest }) hg hsize T L Z LZ (P1 :: Ps)
    (fun P hP => by rcases List.mem_cons.mp hP with rfl | hP; exact L1; exact hL P hP) ⟨hlink1, hlink⟩ (u0 := u0) (sen := sen) (self := a) (cell := freshCell P1.m.cls kX) (cellS := cellS)
    hcell (fun _ => by simp) (by simp) rfl rfl hsel0 hselF hcellS hneS hknownS (by rw [hkeep _ (hout' _)]; exact hu0) (by rw [hkeep _ (hout' _)]; exact hsen)
    (Takes.of_laid hk hord tyC (by rw [Y.causeType]; rfl)) (Takes.of_laid hk hord tyS (by rw [Y.stackType]; exact fits_refV_array _ u0)) (Takes.of_laid hk hord tyP (by rw [Y.suppType]; exact fits_refV_object _ sen)) Y.objLocals hskip htr [] hd6
    (by simp only [List.length_cons, hlen]; omega) (by simp only [List.length_cons, hlen]; exact hRlocals)
  have hlt : a < ((W.setVm vm₁).setVm vm₂).heap.size := (Array.getElem?_eq_some_iff.mp hcell).1
  refine ⟨(W.setVm vm₁).setVm vm₂, _, _, X₂, fun y hy => ?_, hlt, rfl, rfl, fun target hwalk => st1 _ (fun acts => ?_)⟩
  · simp only [List.mem_cons, List.not_mem_nil, or_false] at hy
    rcases hy with rfl | rfl | rfl | rfl <;> rfl
  · rw [doInvoke_state]
    exact st2 _ hwalk
end VXK
section VXK2
variable {p : Program} {l : Launch} {e : Env} {R : Room} {s : State} {m : MethodId} {args : Array Value} {below : List Frame} {meth : Method} {c : Code} {H : Heap} {locs : List Loc} {cells slots : Nat} {Q : State → Prop}
variable {ls : Array Slot} {rest : List Value} {D : va_G} {cl : List vw_C} {tys : List (ClassId × FieldType)} {ws : va_W}
/-- 'new E("text")' that isn't thrown at once: the object goes on the stack -/
theorem vx_makeS {cc : ByteArray} {pc : Nat} (hexec : p.tables.exec = Jvm.exec) (hb : c.code = cc) (hl : l.stackTraces = false) {own cls text : String} {names : List String} {ik is ic sa ci : Nat} {A : Nat → Prop} {T0 : u_T}
    (hown : s.vm.findClass own = some m.cls) (hcls : Bundle.fit cls = true) (hnames : ∀ n ∈ names, Bundle.fit n = true)
    (hk : (Cond.classLink own ik cls).before args s = true) (hini : (Cond.initialized cls).before args s = true) (hstr : vk_R own is text sa s) (hat : ∀ w ∈ vx_atS own ic cls names, w.before args s = true)
    (hgood : ∀ w ∈ Cond.classLink own ik cls :: Cond.initialized cls :: vx_atS own ic cls names, vx_ot w = true)
    (hU : vx_Zq Bundle.tN "UNASSIGNED_STACK" Bundle.steD A s s.heap) (hN : vx_Zq Bundle.tN "SUPPRESSED_SENTINEL" Bundle.listD A s s.heap) (hS : va_S A s.heap H locs) (hsize : ls.size = c.maxLocals)
    (d0 : decode cc pc = .ok (.new ik, 3)) (d3 : decode cc (pc + 3) = .ok (.dup, 1)) (d4 : decode cc (pc + 4) = .ok (.ldc is, 2)) (d6 : decode cc (pc + 6) = .ok (.invokespecial ic, 3))
    (hK : va_K D cl tys s) (hP : va_P D cl ws H) (hD : va_D A ws) (hA : ∀ q, s.heap.size ≤ q → A q) (hc : cl[ci]? = some (cls, T0, 0))
    (hRframes : names.length + 3 < R.frames) (hRlocals : (rest.map fun v => v.category).sum + (13 * (names.length + 1) + 43) ≤ R.locals) (hRcells : cells + 1 ≤ R.cells) (hRslots : slots + 6 ≤ R.slots)
    (kk : ∀ (q : Nat) (H1 : Heap), va_P D cl (ws ++ [(q, .inr (ci, []))]) H1 → va_D A (ws ++ [(q, .inr (ci, []))]) → va_S A s.heap H1 locs → W p l e R s m args below meth c H1 locs (cells + 1) (slots + 6) Q (F0 m (pc + 9) ls (.ref q :: rest))) :
    W p l e R s m args below meth c H locs cells slots Q (F0 m pc ls rest) := by
  intro T hT X
  subst hT
  have htr : e.platform.stackTraces = false := (show e.platform.stackTraces = l.stackTraces by rw [X.admits.platform]).trans hl
  have Y := vx_rebase X (R' := { frames := R.frames, locals := R.locals, cells := 1, slots := 6 }) (Nat.le_refl _) (Nat.le_refl _) hRcells hRslots
  obtain ⟨s', hA'⟩ : ∃ z, z = (T.setVm s.vm).setFrames (.invoking m args :: below) := ⟨_, rfl⟩
  rw [← hA'] at Y
  have hvm : s'.vm = s.vm := by rw [hA']; rfl
  have hhp : s'.heap = T.heap := by rw [hA']; rfl
  have hW0 : s.WarmedH s'.vm := by rw [hvm]; exact State.WarmedH.refl s
  have hat' : ∀ w ∈ vx_atS own ic cls names, w.before args s' = true := fun w hw => vx_ot_at hW0 hvm.symm (hgood w (List.mem_cons_of_mem _ (List.mem_cons_of_mem _ hw))) (hat w hw)
  have hk' : (Cond.classLink own ik cls).before args s' = true := vx_ot_at hW0 hvm.symm (hgood _ List.mem_cons_self) hk
  have hini' : (Cond.initialized cls).before args s' = true := vx_ot_at hW0 hvm.symm (hgood _ (List.mem_cons_of_mem _ List.mem_cons_self)) hini
  have hU' : vx_Zq Bundle.tN "UNASSIGNED_STACK" Bundle.steD A s' s'.heap := by rw [hhp]; exact vx_Zq.moved hW0.alike (hU.kept hS.2.1)
  have hN' : vx_Zq Bundle.tN "SUPPRESSED_SENTINEL" Bundle.listD A s' s'.heap := by rw [hhp]; exact vx_Zq.moved hW0.alike (hN.kept hS.2.1)
  have h : ∀ w ∈ Bundle.ownAtoms own ic cls names, w.before args s' = true := vx_own hat' (vx_isRefq hU'.1) (vx_isRefq hN'.1) hU'.2.word hN'.2.word
  have hown' : s'.vm.findClass own = some m.cls := by rw [hvm]; exact hown
  have hins : (Cond.instantiable cls 6).before args s' = true := h _ (by simp [Bundle.ownAtoms])
  obtain ⟨vm₁, cX, kX, hfX, hkX, -, -, X₁, st1⟩ := Y.newCold hexec (own := own) (C := cls) (index := ik) (n := 6) hown' hk' hins hini'
    (g := F0 m pc ls rest) rfl (by rw [hb]; exact d0) (Nat.le_refl _) (Nat.le_refl _)
  generalize hT1 : (T.setVm vm₁).pushCell { cls := cX, slots := kX.instanceTypes.map defaultValue, vm := .none } = T1 at X₁ st1
  have hcat : (Value.ref T.heap.size).category = 1 := rfl
  have hcellA : T1.heap[T.heap.size]? = some (freshCell cX kX) := by rw [← hT1]; exact State.heap_pushCell_size _ _
  have d3' : decode c.code (pc + 3) = .ok (.dup, 1) := by rw [hb]; exact d3
  have d4' : decode c.code (pc + 4) = .ok (.ldc is, 2) := by rw [hb]; exact d4
  have hstr' : vk_R own is text sa s' := vk_R.warm hW0 hstr
  obtain ⟨V, ce, L, Z, hL, hlt, hcl9, hvm9, st⟩ := vx_ctorMadeS X₁ hexec htr (own := own) (cls := cls) (names := names) (ic := ic) hown' hcls hnames h (fun x hx => nomatch hx) hfX hkX hcellA (by rw [hhp]; exact Nat.le_refl _) (msg := .ref sa) rfl
    (g := { method := m, pc := pc + 6, locals := ls, stack := .ref sa :: .ref T.heap.size :: .ref T.heap.size :: rest, locked := none }) rfl hsize (rest := rest) rfl
    (by rw [hb]; exact d6) hRframes (by simp only [List.map_cons, List.sum_cons, hcat]; omega)
  have Z0 := Stand.forget (locs := []) Z (fun y hy => by rw [hL y hy, hhp]; exact Nat.le_refl _)
  obtain ⟨f1, f2⟩ := vx_frame Z0.same
  rw [hhp] at f1 f2
  have hcid : ce.cls = D.1 ci := by
    rw [hcl9]
    have h1 := (hK.1 ci _ hc).2.1
    rw [hvm] at hfX
    exact Option.some.inj (hfX.symm.trans h1)
  have hh : (V.setCell T.heap.size ce).heap[T.heap.size]? = some ce := heapAt_setCell_self (s := V) ce hlt
  subst hA'
  have X5 := vx_back9 X Y Z0
  have X6 : Stand p l e R s m args below meth c (V.setCell T.heap.size ce) locs (cells + 1) (slots + 6) := { X5 with same := X5.same.mono (by omega) (by omega) }
  have hk9 : ∀ (k : Nat) (x : Nat × va_E), ws[k]? = some x → (V.setCell T.heap.size ce).heap[x.1]? = T.heap[x.1]? := fun k x hx => f2 x.1 ((hP k x hx).lt) (fun z hz => nomatch hz)
  obtain ⟨t, a1, b1⟩ := kk T.heap.size (V.setCell T.heap.size ce).heap ((hP.kept hk9).app (fun k x hx => by
      have hz : k < 1 := (List.getElem?_eq_some_iff.mp hx).1
      rw [show k = 0 by omega] at hx
      cases hx
      exact ⟨_, hc, ce, hh, hcid, hvm9, fun k hk => absurd hk (Nat.not_lt_zero k)⟩)) (hD.push hP rfl (hA _ hS.1)) ⟨Nat.le_trans hS.1 f1, fun q h1 h2 => (f2 q (Nat.lt_of_lt_of_le h1 hS.1) (fun z hz => nomatch hz)).trans (hS.2.1 q h1 h2), hS.2.2⟩ _ rfl X6
  refine ⟨t, st1 _ ?_, b1⟩
  show Steps p.tables e below (T1.setTop { method := m, pc := pc + 3, locals := ls, stack := .ref T.heap.size :: rest, locked := none }) _
  jvm_step X₁.here [X₁.here.top, hexec, d3', Value.category]
  exact X₁.ldcString hexec (own := own) (text := text) (index := is) (a := sa) hown' hstr'.1 hstr'.2
    (g := { method := m, pc := pc + 4, locals := ls, stack := .ref T.heap.size :: .ref T.heap.size :: rest, locked := none }) rfl d4' _ (st _ a1)
/-- 'new E()' that isn't thrown at once: the object goes on the stack -/
theorem vx_make0 {cc : ByteArray} {pc : Nat} (hexec : p.tables.exec = Jvm.exec) (hb : c.code = cc) (hl : l.stackTraces = false) {own cls : String} {names : List String} {ik ic ci : Nat} {A : Nat → Prop} {T0 : u_T}
    (hown : s.vm.findClass own = some m.cls) (hcls : Bundle.fit cls = true) (hnames : ∀ n ∈ names, Bundle.fit n = true)
    (hk : (Cond.classLink own ik cls).before args s = true) (hini : (Cond.initialized cls).before args s = true) (hat : ∀ w ∈ vx_at0 own ic cls names, w.before args s = true)
    (hgood : ∀ w ∈ Cond.classLink own ik cls :: Cond.initialized cls :: vx_at0 own ic cls names, vx_ot w = true)
    (hU : vx_Zq Bundle.tN "UNASSIGNED_STACK" Bundle.steD A s s.heap) (hN : vx_Zq Bundle.tN "SUPPRESSED_SENTINEL" Bundle.listD A s s.heap) (hS : va_S A s.heap H locs) (hsize : ls.size = c.maxLocals)
    (d0 : decode cc pc = .ok (.new ik, 3)) (d3 : decode cc (pc + 3) = .ok (.dup, 1)) (d4 : decode cc (pc + 4) = .ok (.invokespecial ic, 3))
    (hK : va_K D cl tys s) (hP : va_P D cl ws H) (hD : va_D A ws) (hA : ∀ q, s.heap.size ≤ q → A q) (hc : cl[ci]? = some (cls, T0, 0))
    (hRframes : names.length + 3 < R.frames) (hRlocals : (rest.map fun v => v.category).sum + (13 * (names.length + 1) + 42) ≤ R.locals) (hRcells : cells + 1 ≤ R.cells) (hRslots : slots + 6 ≤ R.slots)
    (kk : ∀ (q : Nat) (H1 : Heap), va_P D cl (ws ++ [(q, .inr (ci, []))]) H1 → va_D A (ws ++ [(q, .inr (ci, []))]) → va_S A s.heap H1 locs → W p l e R s m args below meth c H1 locs (cells + 1) (slots + 6) Q (F0 m (pc + 7) ls (.ref q :: rest))) :
    W p l e R s m args below meth c H locs cells slots Q (F0 m pc ls rest) := by
  intro T hT X
  subst hT
  have htr : e.platform.stackTraces = false := (show e.platform.stackTraces = l.stackTraces by rw [X.admits.platform]).trans hl
  have Y := vx_rebase X (R' := { frames := R.frames, locals := R.locals, cells := 1, slots := 6 }) (Nat.le_refl _) (Nat.le_refl _) hRcells hRslots
  obtain ⟨s', hA'⟩ : ∃ z, z = (T.setVm s.vm).setFrames (.invoking m args :: below) := ⟨_, rfl⟩
  rw [← hA'] at Y
  have hvm : s'.vm = s.vm := by rw [hA']; rfl
  have hhp : s'.heap = T.heap := by rw [hA']; rfl
  have hW0 : s.WarmedH s'.vm := by rw [hvm]; exact State.WarmedH.refl s
  have hat' : ∀ w ∈ vx_at0 own ic cls names, w.before args s' = true := fun w hw => vx_ot_at hW0 hvm.symm (hgood w (List.mem_cons_of_mem _ (List.mem_cons_of_mem _ hw))) (hat w hw)
  have hk' : (Cond.classLink own ik cls).before args s' = true := vx_ot_at hW0 hvm.symm (hgood _ List.mem_cons_self) hk
  have hini' : (Cond.initialized cls).before args s' = true := vx_ot_at hW0 hvm.symm (hgood _ (List.mem_cons_of_mem _ List.mem_cons_self)) hini
  have hU' : vx_Zq Bundle.tN "UNASSIGNED_STACK" Bundle.steD A s' s'.heap := by rw [hhp]; exact vx_Zq.moved hW0.alike (hU.kept hS.2.1)
  have hN' : vx_Zq Bundle.tN "SUPPRESSED_SENTINEL" Bundle.listD A s' s'.heap := by rw [hhp]; exact vx_Zq.moved hW0.alike (hN.kept hS.2.1)
  have h : ∀ w ∈ Bundle.ownAtoms0 own ic cls names, w.before args s' = true := vx_own hat' (vx_isRefq hU'.1) (vx_isRefq hN'.1) hU'.2.word hN'.2.word
  have hown' : s'.vm.findClass own = some m.cls := by rw [hvm]; exact hown
  have hins : (Cond.instantiable cls 6).before args s' = true := h _ (by simp [Bundle.ownAtoms0])
  obtain ⟨vm₁, cX, kX, hfX, hkX, -, -, X₁, st1⟩ := Y.newCold hexec (own := own) (C := cls) (index := ik) (n := 6) hown' hk' hins hini'
    (g := F0 m pc ls rest) rfl (by rw [hb]; exact d0) (Nat.le_refl _) (Nat.le_refl _)
  generalize hT1 : (T.setVm vm₁).pushCell { cls := cX, slots := kX.instanceTypes.map defaultValue, vm := .none } = T1 at X₁ st1
  have hcat : (Value.ref T.heap.size).category = 1 := rfl
  have hcellA : T1.heap[T.heap.size]? = some (freshCell cX kX) := by rw [← hT1]; exact State.heap_pushCell_size _ _
  have d3' : decode c.code (pc + 3) = .ok (.dup, 1) := by rw [hb]; exact d3
  obtain ⟨V, ce, L, Z, hL, hlt, hcl9, hvm9, st⟩ := vx_ctorMade0 X₁ hexec htr (own := own) (cls := cls) (names := names) (ic := ic) hown' hcls hnames h (fun x hx => nomatch hx) hfX hkX hcellA (by rw [hhp]; exact Nat.le_refl _)
    (g := { method := m, pc := pc + 4, locals := ls, stack := .ref T.heap.size :: .ref T.heap.size :: rest, locked := none }) rfl hsize (rest := rest) rfl
    (by rw [hb]; exact d4) hRframes (by simp only [List.map_cons, List.sum_cons, hcat]; omega)
  have Z0 := Stand.forget (locs := []) Z (fun y hy => by rw [hL y hy, hhp]; exact Nat.le_refl _)
  obtain ⟨f1, f2⟩ := vx_frame Z0.same
  rw [hhp] at f1 f2
  have hcid : ce.cls = D.1 ci := by
    rw [hcl9]
    have h1 := (hK.1 ci _ hc).2.1
    rw [hvm] at hfX
    exact Option.some.inj (hfX.symm.trans h1)
  have hh : (V.setCell T.heap.size ce).heap[T.heap.size]? = some ce := heapAt_setCell_self (s := V) ce hlt
  subst hA'
  have X5 := vx_back9 X Y Z0
  have X6 : Stand p l e R s m args below meth c (V.setCell T.heap.size ce) locs (cells + 1) (slots + 6) := { X5 with same := X5.same.mono (by omega) (by omega) }
  have hk9 : ∀ (k : Nat) (x : Nat × va_E), ws[k]? = some x → (V.setCell T.heap.size ce).heap[x.1]? = T.heap[x.1]? := fun k x hx => f2 x.1 ((hP k x hx).lt) (fun z hz => nomatch hz)
  obtain ⟨t, a1, b1⟩ := kk T.heap.size (V.setCell T.heap.size ce).heap ((hP.kept hk9).app (fun k x hx => by
      have hz : k < 1 := (List.getElem?_eq_some_iff.mp hx).1
      rw [show k = 0 by omega] at hx
      cases hx
      exact ⟨_, hc, ce, hh, hcid, hvm9, fun k hk => absurd hk (Nat.not_lt_zero k)⟩)) (hD.push hP rfl (hA _ hS.1)) ⟨Nat.le_trans hS.1 f1, fun q h1 h2 => (f2 q (Nat.lt_of_lt_of_le h1 hS.1) (fun z hz => nomatch hz)).trans (hS.2.1 q h1 h2), hS.2.2⟩ _ rfl X6
  refine ⟨t, st1 _ ?_, b1⟩
  show Steps p.tables e below (T1.setTop { method := m, pc := pc + 3, locals := ls, stack := .ref T.heap.size :: rest, locked := none }) _
  jvm_step X₁.here [X₁.here.top, hexec, d3', Value.category]
  exact st _ a1
/-- 'throw x' of an object that was made before -/
theorem vx_athrow {cc : ByteArray} {pc : Nat} (hexec : p.tables.exec = Jvm.exec) (hb : c.code = cc) {q : Addr} (hdg : decode cc pc = .ok (.athrow, 1)) (k : vx_W p l e R s m args below meth c H locs cells slots Q (F0 m pc ls rest) q) : W p l e R s m args below meth c H locs cells slots Q (F0 m pc ls (.ref q :: rest)) := by
  intro T hT X
  obtain ⟨t, st, hq⟩ := k T hT X
  refine ⟨t, ?_, hq⟩
  have hdg' : decode c.code pc = .ok (.athrow, 1) := by rw [hb]; exact hdg
  jvm_step X.here [X.here.top, hexec, hdg', athrow.wp_sem]
  exact st
end VXK2
/-! ===== END ===== -/
/-! ===== BEGIN a constructor that throws (launches without stack traces) ===== -/
section VXIA
variable {p : Program} {l : Launch} {e : Env} {R : Room} {s : State} {m : MethodId} {args : Array Value} {below : List Frame} {meth : Method} {c : Code} {T : State} {locs : List Loc} {cells slots : Nat}
theorem vx_callI (X : Stand p l e R s m args below meth c T locs cells slots) (hexec : p.tables.exec = Jvm.exec) {own : String} {index : Nat} {y : MethodName} {bytes : ByteArray} {maxL : Nat}
    (hown : s.vm.findClass own = some m.cls) (hy1 : y.name = "<init>") (hlink : (Cond.methodLink own index y).before args s = true) (hinst : (Cond.instanceMethod y).before args s = true)
    (hcode : (Cond.code y bytes maxL none).before args s = true) (hy : y.cls ≠ "java/lang/invoke/MethodHandle" ∧ y.cls ≠ "java/lang/invoke/VarHandle")
    {W9 : Nat} {Pre : Pt → Array Value → Prop} {Post : Pt → Array Value → Option Value → Pt → Prop} {PostX : Pt → Array Value → Addr → Pt → Prop} (hK : vx_Back l R p e below s args y 3 W9 Pre Post PostX)
    {g : JFrame} (hg : g.method = m) (hsize : g.locals.size = c.maxLocals) {a : Addr} {argsL rest : List Value} (hlen : ∀ sig, parseMethodDescriptor y.desc = some sig → argsL.length = sig.parameters.length)
    (hstack : g.stack = argsL.reverse ++ .ref a :: rest) (hW : 2 * g.monitorRoom + (rest.map fun v => v.category).sum ≤ W9) (hdg : decode c.code g.pc = .ok (.invokespecial index, 3))
    (hpre : ∀ vm₁, s.WarmedH vm₁ → Pre ⟨T.setVm vm₁, locs, cells, slots⟩ (Value.ref a :: argsL).toArray) :
    (∃ (v : Option Value) (vm₁ : Vm) (B : Pt), s.WarmedH vm₁ ∧ Stand p l e R s m args below meth c B.U B.locs B.cells B.slots ∧ Post ⟨T.setVm vm₁, locs, cells, slots⟩ (Value.ref a :: argsL).toArray v B ∧
      ∀ target, Steps p.tables e below (B.U.setTop { g with pc := g.pc + 3, stack := v.toList ++ rest }) target → Steps p.tables e below (T.setTop g) target) ∨
    (∃ (q : Addr) (vm₁ : Vm) (B : Pt), s.WarmedH vm₁ ∧ Stand p l e R s m args below meth c B.U B.locs B.cells B.slots ∧ PostX ⟨T.setVm vm₁, locs, cells, slots⟩ (Value.ref a :: argsL).toArray q B ∧
      Steps p.tables e below (T.setTop g) ((B.U.setTop { g with stack := rest }).pushFrame (.throwing q))) := by
  subst hg
  have hpl : e.platform.magicAccessors = ({} : Platform).magicAccessors := by rw [X.admits.platform]
  obtain ⟨mk, methM, cM, kP, vm₁, hnamed, hmethM, hcodeM, -, hlocalsM, -, hkP, -, hW₁, hstep₁⟩ := Steps.initColdArgs (e := e) X.here hexec X.warmed hpl hown hy1 hy hlink hinst hcode (f := g) rfl hlen hstack hdg
  have X₁ := X.noted hW₁
  rcases hK g.method meth c ⟨T.setVm vm₁, locs, cells, slots⟩ { g with stack := rest } (.invokespecial index) mk (Value.ref a :: argsL).toArray X₁ rfl hsize hdg hW (X₁.named hnamed) (hpre vm₁ X₁.warmed) with ⟨v, B, X', hpost, hsteps⟩ | ⟨q, B, X', hpost, hsteps⟩
  · exact Or.inl ⟨v, vm₁, B, X₁.warmed, X', hpost, fun target h => hstep₁ _ fun acts => by rw [doInvoke_state]; exact hsteps.trans h⟩
  · exact Or.inr ⟨q, vm₁, B, X₁.warmed, X', hpost, hstep₁ _ fun acts => by rw [doInvoke_state]; exact hsteps⟩
end VXIA
section VXIB
variable {p : Program} {l : Launch} {e : Env} {R : Room} {s : State} {m : MethodId} {args : Array Value} {below : List Frame} {meth : Method} {c : Code} {H : Heap} {locs : List Loc} {cells slots : Nat}
variable {y : MethodName} {bytes cc : ByteArray} {maxL nL mc ms n index : Nat} {ret : Option FieldType} {ws : List Cond} {rm : Room} {Pc : Array Value → State → Prop} {Qc : Array Value → State → Outcome → State → Prop} {XC : String → State → State → Prop} {free : Addr → Prop} {Ts : List Cond} {own C : String} {b : Addr} {As rest : List Value} {g : JFrame}
theorem vx_runI (S : CallFix p m c cc nL s args Ts own) (hM : vx_Met l y ws rm Pc Qc XC mc ms free) (cw : CallB R s args own index y bytes maxL none ws rm mc ms n ∧ y.name = "<init>" ∧ (Cond.instanceMethod y).before args s = true) (hp : PreS s H Pc (.ref b :: As))
    (hg : g.method = m) (hn : As.length = n) (hsize : g.locals.size = nL) (hstack : g.stack = As.reverse ++ .ref b :: rest) (hW : 2 * g.monitorRoom + (rest.map fun v => v.category).sum ≤ 8) (hdg : decode cc g.pc = .ok (.invokespecial index, 3)) (hf : cells + mc ≤ R.cells ∧ slots + ms ≤ R.slots) :
    vx_Run p l e R s m args below meth c H locs cells slots mc ms g rest (Qc (Value.ref b :: As).toArray) XC free := by
  have hK : vx_Back l R p e below s args y 3 8 (PreOf R mc ms Pc) (PostOf Qc mc ms free) (vx_Post XC mc ms free) := vx_callBack cw.1 hM hp.1
  obtain ⟨⟨-, -, -, -, -, -, hcode, -, hy, hlen, hl⟩, hy1, hin⟩ := cw
  obtain ⟨hx, hb, hml, ho, -⟩ := S
  have hPc := hp.2
  intro T hT X
  rcases vx_callI X hx (bytes := bytes) (maxL := maxL) ho hy1 hl hin hcode hy hK hg (hsize.trans hml.symm) (a := b) (argsL := As) (rest := rest) (fun sig h => hn.trans (hlen sig h)) hstack hW (by rw [hb]; exact hdg)
    (fun vm₁ hW₁ => ⟨hf.1, hf.2, hPc (T.setVm vm₁) hT hW₁⟩) with ⟨v, vm₁, ⟨U', l2, c2, s2⟩, hW₁, X', ⟨g', mk, t, L, e1, e2, hq, h1, hL, h2, h3⟩, st⟩ | ⟨q, vm₁, ⟨U', l2, c2, s2⟩, hW₁, X', ⟨g', mk, t, L, E, ce, e1, e2, hq, hce, hcv, hcl, h1, hL, h2, h3⟩, st⟩
  · dsimp only [Pt.U, Pt.locs, Pt.cells, Pt.slots] at X' e1 e2 h1 h2 h3 st
    subst h1; subst h2; subst h3
    exact Or.inl ⟨v, (T.setVm vm₁).calling g' mk (Value.ref b :: As).toArray, t, U', L, hT, X', hL, e1, e2, hq, st⟩
  · dsimp only [Pt.U, Pt.locs, Pt.cells, Pt.slots] at X' e1 e2 h1 h2 h3 st hcl
    subst h1; subst h2; subst h3
    exact Or.inr ⟨q, (T.setVm vm₁).calling g' mk (Value.ref b :: As).toArray, t, U', L, E, ce, hT, X', hL, e1, e2, hq, hce, hcv, vx_cls hW₁ hcl, st⟩
end VXIB
/-! ===== END ===== -/
/-! ===== BEGIN a private constructor of a nest mate that throws ===== -/
section VXIC
variable {p : Program} {l : Launch} {e : Env} {R : Room} {s : State} {m : MethodId} {args : Array Value} {below : List Frame} {meth : Method} {c : Code} {T : State} {locs : List Loc} {cells slots : Nat}
theorem vx_callIN (X : Stand p l e R s m args below meth c T locs cells slots) (hexec : p.tables.exec = Jvm.exec) {own : String} {index : Nat} {host : String} {y : MethodName} {bytes : ByteArray} {maxL : Nat}
    (hown : s.vm.findClass own = some m.cls) (hy1 : y.name = "<init>") (hlink : (Cond.methodLinkNest own index y host).before args s = true) (hinst : (Cond.instanceMethod y).before args s = true)
    (hcode : (Cond.code y bytes maxL none).before args s = true) (hy : y.cls ≠ "java/lang/invoke/MethodHandle" ∧ y.cls ≠ "java/lang/invoke/VarHandle")
    {W9 : Nat} {Pre : Pt → Array Value → Prop} {Post : Pt → Array Value → Option Value → Pt → Prop} {PostX : Pt → Array Value → Addr → Pt → Prop} (hK : vx_Back l R p e below s args y 3 W9 Pre Post PostX)
    {g : JFrame} (hg : g.method = m) (hsize : g.locals.size = c.maxLocals) {a : Addr} {argsL rest : List Value} (hlen : ∀ sig, parseMethodDescriptor y.desc = some sig → argsL.length = sig.parameters.length)
    (hstack : g.stack = argsL.reverse ++ .ref a :: rest) (hW : 2 * g.monitorRoom + (rest.map fun v => v.category).sum ≤ W9) (hdg : decode c.code g.pc = .ok (.invokespecial index, 3))
    (hpre : ∀ vm₁, s.WarmedH vm₁ → Pre ⟨T.setVm vm₁, locs, cells, slots⟩ (Value.ref a :: argsL).toArray) :
    (∃ (v : Option Value) (vm₁ : Vm) (B : Pt), s.WarmedH vm₁ ∧ Stand p l e R s m args below meth c B.U B.locs B.cells B.slots ∧ Post ⟨T.setVm vm₁, locs, cells, slots⟩ (Value.ref a :: argsL).toArray v B ∧
      ∀ target, Steps p.tables e below (B.U.setTop { g with pc := g.pc + 3, stack := v.toList ++ rest }) target → Steps p.tables e below (T.setTop g) target) ∨
    (∃ (q : Addr) (vm₁ : Vm) (B : Pt), s.WarmedH vm₁ ∧ Stand p l e R s m args below meth c B.U B.locs B.cells B.slots ∧ PostX ⟨T.setVm vm₁, locs, cells, slots⟩ (Value.ref a :: argsL).toArray q B ∧
      Steps p.tables e below (T.setTop g) ((B.U.setTop { g with stack := rest }).pushFrame (.throwing q))) := by
  subst hg
  have hpl : e.platform.magicAccessors = ({} : Platform).magicAccessors := by rw [X.admits.platform]
  obtain ⟨mk, methM, cM, kP, vm₁, hnamed, hmethM, hcodeM, -, hlocalsM, -, hkP, -, hW₁, hstep₁⟩ := Steps.initColdArgsNest (e := e) X.here hexec X.warmed hpl hown hy1 hy hlink hinst hcode (f := g) rfl hlen hstack hdg
  have X₁ := X.noted hW₁
  rcases hK g.method meth c ⟨T.setVm vm₁, locs, cells, slots⟩ { g with stack := rest } (.invokespecial index) mk (Value.ref a :: argsL).toArray X₁ rfl hsize hdg hW (X₁.named hnamed) (hpre vm₁ X₁.warmed) with ⟨v, B, X', hpost, hsteps⟩ | ⟨q, B, X', hpost, hsteps⟩
  · exact Or.inl ⟨v, vm₁, B, X₁.warmed, X', hpost, fun target h => hstep₁ _ fun acts => by rw [doInvoke_state]; exact hsteps.trans h⟩
  · exact Or.inr ⟨q, vm₁, B, X₁.warmed, X', hpost, hstep₁ _ fun acts => by rw [doInvoke_state]; exact hsteps⟩
end VXIC
section VXID
variable {p : Program} {l : Launch} {e : Env} {R : Room} {s : State} {m : MethodId} {args : Array Value} {below : List Frame} {meth : Method} {c : Code} {H : Heap} {locs : List Loc} {cells slots : Nat}
theorem vx_runIN {y : MethodName} {bytes cc : ByteArray} {maxL nL mc ms n index : Nat} {ws : List Cond} {rm : Room} {Pc : Array Value → State → Prop} {Qc : Array Value → State → Outcome → State → Prop} {XC : String → State → State → Prop} {free : Addr → Prop} {Ts : List Cond} {own host : String} {b : Addr} {As rest : List Value} {g : JFrame}
    (S : CallFix p m c cc nL s args Ts own) (hM : vx_Met l y ws rm Pc Qc XC mc ms free) (cw : va_CN R s args own index y host bytes maxL none ws rm mc ms n ∧ y.name = "<init>" ∧ (Cond.instanceMethod y).before args s = true) (hp : PreS s H Pc (.ref b :: As))
    (hg : g.method = m) (hn : As.length = n) (hsize : g.locals.size = nL) (hstack : g.stack = As.reverse ++ .ref b :: rest) (hW : 2 * g.monitorRoom + (rest.map fun v => v.category).sum ≤ 8) (hdg : decode cc g.pc = .ok (.invokespecial index, 3)) (hf : cells + mc ≤ R.cells ∧ slots + ms ≤ R.slots) :
    vx_Run p l e R s m args below meth c H locs cells slots mc ms g rest (Qc (Value.ref b :: As).toArray) XC free := by
  obtain ⟨⟨⟨hrc, hrs, hfr, hlo, hws, hcw⟩, hcode, hini, hy, hlen, hl⟩, hx1, hx2⟩ := cw
  have hK : vx_Back l R p e below s args y 3 8 (PreOf R mc ms Pc) (PostOf Qc mc ms free) (vx_Post XC mc ms free) := vx_back (bytes := bytes) (maxL := maxL) (ret := none) hM hp.1 hrc hrs hfr hlo hws hcw (fun a' U hW => word_at hW (Or.inl (by first | rfl | simp [Cond.onTables, Cond.keeps, Cond.steady])) hini)
  obtain ⟨hx, hb, hml, ho, -⟩ := S
  have hPc := hp.2
  intro T hT X
  rcases vx_callIN X hx (bytes := bytes) (maxL := maxL) ho hx1 hl hx2 hcode hy hK hg (hsize.trans hml.symm) (a := b) (argsL := As) (rest := rest) (fun sig h => hn.trans (hlen sig h)) hstack hW (by rw [hb]; exact hdg)
    (fun vm₁ hW₁ => ⟨hf.1, hf.2, hPc (T.setVm vm₁) hT hW₁⟩) with ⟨v, vm₁, ⟨U', l2, c2, s2⟩, hW₁, X', ⟨g', mk, t, L, e1, e2, hq, h1, hL, h2, h3⟩, st⟩ | ⟨q, vm₁, ⟨U', l2, c2, s2⟩, hW₁, X', ⟨g', mk, t, L, E, ce, e1, e2, hq, hce, hcv, hcl, h1, hL, h2, h3⟩, st⟩
  · dsimp only [Pt.U, Pt.locs, Pt.cells, Pt.slots] at X' e1 e2 h1 h2 h3 st
    subst h1; subst h2; subst h3
    exact Or.inl ⟨v, (T.setVm vm₁).calling g' mk (Value.ref b :: As).toArray, t, U', L, hT, X', hL, e1, e2, hq, st⟩
  · dsimp only [Pt.U, Pt.locs, Pt.cells, Pt.slots] at X' e1 e2 h1 h2 h3 st hcl
    subst h1; subst h2; subst h3
    exact Or.inr ⟨q, (T.setVm vm₁).calling g' mk (Value.ref b :: As).toArray, t, U', L, E, ce, hT, X', hL, e1, e2, hq, hce, hcv, vx_cls hW₁ hcl, st⟩
end VXID
/-! ===== END ===== -/
/-! ===== BEGIN a method of a class above, found by the receiver, that may throw (follows va_callVU, va_runU of this kit) ===== -/
section
variable {p : Program} {l : Launch} {e : Env} {R : Room} {s : State} {m : MethodId} {args : Array Value} {below : List Frame} {meth : Method} {c : Code} {H : Heap} {locs : List Loc} {cells slots : Nat}
theorem vx_callVU {T : State} {locs : List Loc} {cells slots : Nat} (X : Stand p l e R s m args below meth c T locs cells slots) (hexec : p.tables.exec = Jvm.exec) {own C owner : String} {index : Nat} {x y : MethodName} {bytes : ByteArray} {maxL : Nat} {ret : Option FieldType}
    (hown : s.vm.findClass own = some m.cls) (hlink : (Cond.methodLink own index x).before args s = true) (hsame : (Cond.sameMethod x.cls owner x.name x.desc).before args s = true)
    (hd0 : va_Decl s ⟨owner, x.name, x.desc⟩) (howner : owner ≠ "java/lang/invoke/MethodHandle" ∧ owner ≠ "java/lang/invoke/VarHandle")
    (hsel : (Cond.selects C x y).before args s = true) (hinst : (Cond.instanceMethod y).before args s = true) (hcode : (Cond.code y bytes maxL ret).before args s = true)
    {W : Nat} {Pre : Pt → Array Value → Prop} {Post : Pt → Array Value → Option Value → Pt → Prop} {PostX : Pt → Array Value → Addr → Pt → Prop} (hK : vx_Back l R p e below s args y 3 W Pre Post PostX)
    {b : Addr} {cellB : Cell} (hcell : T.heap[b]? = some cellB) (hobj : cellB.vm.isStatics = false) (hcls : s.vm.findClass C = some cellB.cls)
    {g : JFrame} (hg : g.method = m) (hsize : g.locals.size = c.maxLocals) {argsL rest : List Value} (hlen : ∀ sig, parseMethodDescriptor x.desc = some sig → argsL.length = sig.parameters.length)
    (hstack : g.stack = argsL.reverse ++ .ref b :: rest) (hW : 2 * g.monitorRoom + (rest.map fun v => v.category).sum ≤ W) (hdg : decode c.code g.pc = .ok (.invokevirtual index, 3))
    (hpre : ∀ vm₁, s.WarmedH vm₁ → Pre ⟨T.setVm vm₁, locs, cells, slots⟩ (Value.ref b :: argsL).toArray) :
    (∃ (v : Option Value) (vm₁ : Vm) (B : Pt), s.WarmedH vm₁ ∧ Stand p l e R s m args below meth c B.U B.locs B.cells B.slots ∧ Post ⟨T.setVm vm₁, locs, cells, slots⟩ (Value.ref b :: argsL).toArray v B ∧
      ∀ target, Steps p.tables e below (B.U.setTop { g with pc := g.pc + 3, stack := v.toList ++ rest }) target → Steps p.tables e below (T.setTop g) target) ∨
    (∃ (q : Addr) (vm₁ : Vm) (B : Pt), s.WarmedH vm₁ ∧ Stand p l e R s m args below meth c B.U B.locs B.cells B.slots ∧ PostX ⟨T.setVm vm₁, locs, cells, slots⟩ (Value.ref b :: argsL).toArray q B ∧
      Steps p.tables e below (T.setTop g) ((B.U.setTop { g with stack := rest }).pushFrame (.throwing q))) := by
  obtain ⟨r0, r, hn, hrm, hstR, hsigR⟩ := hd0
  obtain ⟨cn, ck, r1, hcn, hck, hni, hf, hn1⟩ := Cond.sameMethod_found hsame
  cases hn.symm.trans hn1
  obtain ⟨mk, methM, hnamed, hmethM, -, habM⟩ := Cond.instanceMethod_spec hinst
  obtain ⟨c2, r2, m2, q1, q2, q3, q4, kP, hkP, hkPi⟩ := Cond.selects_spec hsel
  cases hcls.symm.trans q1
  cases hf.symm.trans q2
  cases hnamed.symm.trans q3
  have hselP : selectMethod e.platform s.vm cellB.cls r0 = .method mk := by rw [Launch.admits_selectMethod X.admits]; exact q4
  obtain ⟨vm₁, X₁, hstep₁⟩ := X.invokevirtualUp hexec hown hlink hsame howner hn hrm hstR (a := b) (cell := cellB) hcell
    (fun z h => by rw [h] at hobj; cases hobj) hselP hmethM habM hkP hkPi (g := g) hg (argsL := argsL) (rest := rest) (hlen _ hsigR) hstack hdg
  rcases hK m meth c ⟨T.setVm vm₁, locs, cells, slots⟩ { g with stack := rest } (.invokevirtual index) mk (Value.ref b :: argsL).toArray X₁ hg hsize hdg hW (X₁.named hnamed) (hpre vm₁ X₁.warmed) with ⟨v, B, X', hpost, hsteps⟩ | ⟨q, B, X', hpost, hsteps⟩
  · exact Or.inl ⟨v, vm₁, B, X₁.warmed, X', hpost, fun target h => hstep₁ _ fun acts => by rw [doInvoke_state]; exact hsteps.trans h⟩
  · exact Or.inr ⟨q, vm₁, B, X₁.warmed, X', hpost, hstep₁ _ fun acts => by rw [doInvoke_state]; exact hsteps⟩
theorem vx_runU {x y : MethodName} {bytes cc : ByteArray} {maxL nL mc ms n index : Nat} {ret : Option FieldType} {ws : List Cond} {rm : Room} {Pc : Array Value → State → Prop} {Qc : Array Value → State → Outcome → State → Prop} {XC : String → State → State → Prop} {free : Addr → Prop} {Ts : List Cond} {own C owner : String} {b : Addr} {As rest : List Value} {g : JFrame}
    (S : CallFix p m c cc nL s args Ts own) (hM : vx_Met l y ws rm Pc Qc XC mc ms free) (cw : va_CU R s args own C owner index x y bytes maxL ret ws rm mc ms n) (hp : PreV s H C b Pc As)
    (hg : g.method = m) (hn : As.length = n) (hsize : g.locals.size = nL) (hstack : g.stack = As.reverse ++ .ref b :: rest) (hW : 2 * g.monitorRoom + (rest.map fun v => v.category).sum ≤ 8) (hdg : decode cc g.pc = .ok (.invokevirtual index, 3)) (hf : cells + mc ≤ R.cells ∧ slots + ms ≤ R.slots) :
    vx_Run p l e R s m args below meth c H locs cells slots mc ms g rest (Qc (Value.ref b :: As).toArray) XC free := by
  obtain ⟨hrc, hrs, hfr, hlo, hws, hcw⟩ := cw.back
  have hini := cw.init
  have hK : vx_Back l R p e below s args y 3 8 (PreOf R mc ms Pc) (PostOf Qc mc ms free) (vx_Post XC mc ms free) := vx_back (bytes := bytes) (maxL := maxL) (ret := ret) hM hp.1 hrc hrs hfr hlo hws hcw (fun a' U hW => word_at hW (Or.inl (by first | rfl | simp [Cond.onTables, Cond.keeps, Cond.steady])) hini)
  obtain ⟨hx, hb, hml, ho, -⟩ := S
  obtain ⟨-, ⟨cellB, hcB, hoB, hclB⟩, hPc⟩ := hp
  intro T hT X
  rcases vx_callVU X hx (C := C) (owner := owner) (bytes := bytes) (maxL := maxL) (ret := ret) ho cw.link cw.same cw.decl cw.notMH cw.sel cw.inst cw.code hK (by rw [hT]; exact hcB) hoB hclB hg (hsize.trans hml.symm) (argsL := As) (rest := rest) (fun sig h => hn.trans (cw.len sig h)) hstack hW (by rw [hb]; exact hdg)
    (fun vm₁ hW₁ => ⟨hf.1, hf.2, hPc (T.setVm vm₁) hT hW₁⟩) with ⟨v, vm₁, ⟨U', l2, c2, s2⟩, hW₁, X', ⟨g', mk, t, L, e1, e2, hq, h1, hL, h2, h3⟩, st⟩ | ⟨q, vm₁, ⟨U', l2, c2, s2⟩, hW₁, X', ⟨g', mk, t, L, E, ce, e1, e2, hq, hce, hcv, hcl, h1, hL, h2, h3⟩, st⟩
  · dsimp only [Pt.U, Pt.locs, Pt.cells, Pt.slots] at X' e1 e2 h1 h2 h3 st
    subst h1; subst h2; subst h3
    exact Or.inl ⟨v, (T.setVm vm₁).calling g' mk (Value.ref b :: As).toArray, t, U', L, hT, X', hL, e1, e2, hq, st⟩
  · dsimp only [Pt.U, Pt.locs, Pt.cells, Pt.slots] at X' e1 e2 h1 h2 h3 st hcl
    subst h1; subst h2; subst h3
    exact Or.inr ⟨q, (T.setVm vm₁).calling g' mk (Value.ref b :: As).toArray, t, U', L, E, ce, hT, X', hL, e1, e2, hq, hce, hcv, vx_cls hW₁ hcl, st⟩
end
/-! ===== END ===== -/
/-! ===== BEGIN super.m(..) that may throw (follows va_callSU, va_runSU) ===== -/
section
variable {p : Program} {l : Launch} {e : Env} {R : Room} {s : State} {m : MethodId} {args : Array Value} {below : List Frame} {meth : Method} {c : Code} {H : Heap} {locs : List Loc} {cells slots : Nat}
theorem vx_callSU {T : State} {locs : List Loc} {cells slots : Nat} (X : Stand p l e R s m args below meth c T locs cells slots) (hexec : p.tables.exec = Jvm.exec) {own : String} {index : Nat} {y : MethodName} {bytes : ByteArray} {maxL : Nat} {ret : Option FieldType}
    (hown : s.vm.findClass own = some m.cls) (hlink : (Cond.methodLink own index y).before args s = true) (hsame : (Cond.sameMethod y.cls y.cls y.name y.desc).before args s = true) (hsup : (Cond.superclass own y.cls).before args s = true)
    (hinst : (Cond.instanceMethod y).before args s = true) (hcode : (Cond.code y bytes maxL ret).before args s = true) (hno : y.name ≠ "<init>")
    {W : Nat} {Pre : Pt → Array Value → Prop} {Post : Pt → Array Value → Option Value → Pt → Prop} {PostX : Pt → Array Value → Addr → Pt → Prop} (hK : vx_Back l R p e below s args y 3 W Pre Post PostX)
    {b : Addr} {cellB : Cell} {kB : Class} (hcell : T.heap[b]? = some cellB) (hobj : cellB.vm.isStatics = false) (hkB : s.vm.classes[cellB.cls]? = some kB)
    {g : JFrame} (hg : g.method = m) (hsize : g.locals.size = c.maxLocals) {argsL rest : List Value} (hlen : ∀ sig, parseMethodDescriptor y.desc = some sig → argsL.length = sig.parameters.length)
    (hstack : g.stack = argsL.reverse ++ .ref b :: rest) (hW : 2 * g.monitorRoom + (rest.map fun v => v.category).sum ≤ W) (hdg : decode c.code g.pc = .ok (.invokespecial index, 3))
    (hpre : ∀ vm₁, s.WarmedH vm₁ → Pre ⟨T.setVm vm₁, locs, cells, slots⟩ (Value.ref b :: argsL).toArray) :
    (∃ (v : Option Value) (vm₁ : Vm) (B : Pt), s.WarmedH vm₁ ∧ Stand p l e R s m args below meth c B.U B.locs B.cells B.slots ∧ Post ⟨T.setVm vm₁, locs, cells, slots⟩ (Value.ref b :: argsL).toArray v B ∧
      ∀ target, Steps p.tables e below (B.U.setTop { g with pc := g.pc + 3, stack := v.toList ++ rest }) target → Steps p.tables e below (T.setTop g) target) ∨
    (∃ (q : Addr) (vm₁ : Vm) (B : Pt), s.WarmedH vm₁ ∧ Stand p l e R s m args below meth c B.U B.locs B.cells B.slots ∧ PostX ⟨T.setVm vm₁, locs, cells, slots⟩ (Value.ref b :: argsL).toArray q B ∧
      Steps p.tables e below (T.setTop g) ((B.U.setTop { g with stack := rest }).pushFrame (.throwing q))) := by
  obtain ⟨mk, methM, hnamed, hmethM, hstM, habM⟩ := Cond.instanceMethod_spec hinst
  obtain ⟨methM', cM, hmethM', -, -, -, -, -, -, hsigM⟩ := Cond.code_spec hnamed hcode
  cases hmethM.symm.trans hmethM'
  obtain ⟨ps, dk, kp, hps, hdk, hkp, hsuper, -, -, hnid⟩ := Cond.superclass_spec hown hsup
  have hn : s.methodNamed? ⟨y.cls, y.name, y.desc⟩ = some mk := hnamed
  have hpm : ps = mk.cls := Option.some.inj (hps.symm.trans (findClass_of_methodNamed hnamed))
  have hsub : s.vm.isSubclass ps mk.cls = true := by rw [hpm]; simp [Vm.isSubclass, Vm.isSubclassAux]
  obtain ⟨vm₁, X₁, hstep₁⟩ := X.invokespecialUp hexec hown hlink hsame hn hmethM hstM habM hno hdk hnid hps hsuper hsub (a := b) (cell := cellB) hcell
    (fun z h => by rw [h] at hobj; cases hobj) hkB (g := g) hg (argsL := argsL) (rest := rest) (hlen _ hsigM) hstack hdg
  rcases hK m meth c ⟨T.setVm vm₁, locs, cells, slots⟩ { g with stack := rest } (.invokespecial index) mk (Value.ref b :: argsL).toArray X₁ hg hsize hdg hW (X₁.named hnamed) (hpre vm₁ X₁.warmed) with ⟨v, B, X', hpost, hsteps⟩ | ⟨q, B, X', hpost, hsteps⟩
  · exact Or.inl ⟨v, vm₁, B, X₁.warmed, X', hpost, fun target h => hstep₁ _ (by rw [doInvoke_state]; exact hsteps.trans h)⟩
  · exact Or.inr ⟨q, vm₁, B, X₁.warmed, X', hpost, hstep₁ _ (by rw [doInvoke_state]; exact hsteps)⟩
theorem vx_runSU {y : MethodName} {bytes cc : ByteArray} {maxL nL mc ms n index : Nat} {ret : Option FieldType} {ws : List Cond} {rm : Room} {Pc : Array Value → State → Prop} {Qc : Array Value → State → Outcome → State → Prop} {XC : String → State → State → Prop} {free : Addr → Prop} {Ts : List Cond} {own C : String} {cC : ClassId} {b : Addr} {As rest : List Value} {g : JFrame}
    (hat : ClassAt s C cC) (S : CallFix p m c cc nL s args Ts own) (hM : vx_Met l y ws rm Pc Qc XC mc ms free) (cw : va_CS R s args own index y bytes maxL ret ws rm mc ms n) (hp : PreV s H C b Pc As)
    (hg : g.method = m) (hn : As.length = n) (hsize : g.locals.size = nL) (hstack : g.stack = As.reverse ++ .ref b :: rest) (hW : 2 * g.monitorRoom + (rest.map fun v => v.category).sum ≤ 8) (hdg : decode cc g.pc = .ok (.invokespecial index, 3)) (hf : cells + mc ≤ R.cells ∧ slots + ms ≤ R.slots) :
    vx_Run p l e R s m args below meth c H locs cells slots mc ms g rest (Qc (Value.ref b :: As).toArray) XC free := by
  obtain ⟨⟨hrc, hrs, hfr, hlo, hws, hcw⟩, hl1, hl2, hl3, hl4, hini, hcode, hno, hlen⟩ := cw
  have hK : vx_Back l R p e below s args y 3 8 (PreOf R mc ms Pc) (PostOf Qc mc ms free) (vx_Post XC mc ms free) := vx_back (bytes := bytes) (maxL := maxL) (ret := ret) hM hp.1 hrc hrs hfr hlo hws hcw (fun a' U hW => word_at hW (Or.inl (by first | rfl | simp [Cond.onTables, Cond.keeps, Cond.steady])) hini)
  obtain ⟨hx, hb, hml, ho, -⟩ := S
  obtain ⟨-, ⟨cellB, hcB, hoB, hclB⟩, hPc⟩ := hp
  obtain ⟨hfc, kB, hkB, -⟩ := hat
  cases hfc.symm.trans hclB
  intro T hT X
  rcases vx_callSU X hx (bytes := bytes) (maxL := maxL) (ret := ret) ho hl1 hl2 hl3 hl4 hcode hno hK (by rw [hT]; exact hcB) hoB hkB hg (hsize.trans hml.symm) (argsL := As) (rest := rest) (fun sig h => hn.trans (hlen sig h)) hstack hW (by rw [hb]; exact hdg)
    (fun vm₁ hW₁ => ⟨hf.1, hf.2, hPc (T.setVm vm₁) hT hW₁⟩) with ⟨v, vm₁, ⟨U', l2, c2, s2⟩, hW₁, X', ⟨g', mk, t, L, e1, e2, hq, h1, hL, h2, h3⟩, st⟩ | ⟨q, vm₁, ⟨U', l2, c2, s2⟩, hW₁, X', ⟨g', mk, t, L, E, ce, e1, e2, hq, hce, hcv, hcl, h1, hL, h2, h3⟩, st⟩
  · dsimp only [Pt.U, Pt.locs, Pt.cells, Pt.slots] at X' e1 e2 h1 h2 h3 st
    subst h1; subst h2; subst h3
    exact Or.inl ⟨v, (T.setVm vm₁).calling g' mk (Value.ref b :: As).toArray, t, U', L, hT, X', hL, e1, e2, hq, st⟩
  · dsimp only [Pt.U, Pt.locs, Pt.cells, Pt.slots] at X' e1 e2 h1 h2 h3 st hcl
    subst h1; subst h2; subst h3
    exact Or.inr ⟨q, (T.setVm vm₁).calling g' mk (Value.ref b :: As).toArray, t, U', L, E, ce, hT, X', hL, e1, e2, hq, hce, hcv, vx_cls hW₁ hcl, st⟩
end
/-! ===== END ===== -/
/-! ===== BEGIN a private method of a nest mate that may throw (follows va_callVN, va_callSN, va_runVN, va_runSN) ===== -/
section
variable {p : Program} {l : Launch} {e : Env} {R : Room} {s : State} {m : MethodId} {args : Array Value} {below : List Frame} {meth : Method} {c : Code} {H : Heap} {locs : List Loc} {cells slots : Nat}
variable {T : State}
theorem vx_callVN (X : Stand p l e R s m args below meth c T locs cells slots) (hexec : p.tables.exec = Jvm.exec) {own C : String} {index : Nat} {host : String} {y : MethodName} {bytes : ByteArray} {maxL : Nat} {ret : Option FieldType}
    (hown : s.vm.findClass own = some m.cls) (hlink : (Cond.methodLinkNest own index y host).before args s = true) (hinst : (Cond.instanceMethod y).before args s = true) (hsel : (Cond.selects C y y).before args s = true)
    (hcode : (Cond.code y bytes maxL ret).before args s = true) (hy : y.cls ≠ "java/lang/invoke/MethodHandle" ∧ y.cls ≠ "java/lang/invoke/VarHandle")
    {W : Nat} {Pre : Pt → Array Value → Prop} {Post : Pt → Array Value → Option Value → Pt → Prop} {PostX : Pt → Array Value → Addr → Pt → Prop} (hK : vx_Back l R p e below s args y 3 W Pre Post PostX)
    {b : Addr} {cellB : Cell} (hcell : T.heap[b]? = some cellB) (hobj : cellB.vm.isStatics = false) (hcls : s.vm.findClass C = some cellB.cls)
    {g : JFrame} (hg : g.method = m) (hsize : g.locals.size = c.maxLocals) {argsL rest : List Value} (hlen : ∀ sig, parseMethodDescriptor y.desc = some sig → argsL.length = sig.parameters.length)
    (hstack : g.stack = argsL.reverse ++ .ref b :: rest) (hW : 2 * g.monitorRoom + (rest.map fun v => v.category).sum ≤ W) (hdg : decode c.code g.pc = .ok (.invokevirtual index, 3))
    (hpre : ∀ vm₁, s.WarmedH vm₁ → Pre ⟨T.setVm vm₁, locs, cells, slots⟩ (Value.ref b :: argsL).toArray) :
    (∃ (v : Option Value) (vm₁ : Vm) (B : Pt), s.WarmedH vm₁ ∧ Stand p l e R s m args below meth c B.U B.locs B.cells B.slots ∧ Post ⟨T.setVm vm₁, locs, cells, slots⟩ (Value.ref b :: argsL).toArray v B ∧
      ∀ target, Steps p.tables e below (B.U.setTop { g with pc := g.pc + 3, stack := v.toList ++ rest }) target → Steps p.tables e below (T.setTop g) target) ∨
    (∃ (q : Addr) (vm₁ : Vm) (B : Pt), s.WarmedH vm₁ ∧ Stand p l e R s m args below meth c B.U B.locs B.cells B.slots ∧ PostX ⟨T.setVm vm₁, locs, cells, slots⟩ (Value.ref b :: argsL).toArray q B ∧
      Steps p.tables e below (T.setTop g) ((B.U.setTop { g with stack := rest }).pushFrame (.throwing q))) := by
  obtain ⟨mk, methM, hnamed, hmethM, hstM, habM⟩ := Cond.instanceMethod_spec hinst
  obtain ⟨methM', cM, hmethM', -, -, -, -, -, -, hsigM⟩ := Cond.code_spec hnamed hcode
  cases hmethM.symm.trans hmethM'
  obtain ⟨c2, r2, m2, q1, q2, q3, q4, kP, hkP, hkPi⟩ := Cond.selects_spec hsel
  cases hcls.symm.trans q1
  cases (State.methodFound?_of_named hnamed hy).symm.trans q2
  cases hnamed.symm.trans q3
  have hselP : selectMethod e.platform s.vm cellB.cls mk = .method mk := by rw [Launch.admits_selectMethod X.admits]; exact q4
  obtain ⟨vm₁, X₁, hstep₁⟩ := X.invokevirtualNest hexec hown hlink hnamed hmethM hstM hkP hkPi hy (a := b) (cell := cellB) hcell
    (fun z h => by rw [h] at hobj; cases hobj) hselP hmethM habM hkP hkPi (g := g) hg (argsL := argsL) (rest := rest) (hlen _ hsigM) hstack hdg
  rcases hK m meth c ⟨T.setVm vm₁, locs, cells, slots⟩ { g with stack := rest } (.invokevirtual index) mk (Value.ref b :: argsL).toArray X₁ hg hsize hdg hW (X₁.named hnamed) (hpre vm₁ X₁.warmed) with ⟨v, B, X', hpost, hsteps⟩ | ⟨q, B, X', hpost, hsteps⟩
  · exact Or.inl ⟨v, vm₁, B, X₁.warmed, X', hpost, fun target h => hstep₁ _ fun acts => by rw [doInvoke_state]; exact hsteps.trans h⟩
  · exact Or.inr ⟨q, vm₁, B, X₁.warmed, X', hpost, hstep₁ _ fun acts => by rw [doInvoke_state]; exact hsteps⟩
theorem vx_callSN (X : Stand p l e R s m args below meth c T locs cells slots) (hexec : p.tables.exec = Jvm.exec) {own : String} {index : Nat} {host : String} {y : MethodName} {bytes : ByteArray} {maxL : Nat} {ret : Option FieldType}
    (hown : s.vm.findClass own = some m.cls) (hlink : (Cond.methodLinkNest own index y host).before args s = true) (hstat : (Cond.static y).before args s = true) (hinit : (Cond.initialized y.cls).before args s = true)
    (hcode : (Cond.code y bytes maxL ret).before args s = true) (hy : y.cls ≠ "java/lang/invoke/MethodHandle" ∧ y.cls ≠ "java/lang/invoke/VarHandle")
    {W : Nat} {Pre : Pt → Array Value → Prop} {Post : Pt → Array Value → Option Value → Pt → Prop} {PostX : Pt → Array Value → Addr → Pt → Prop} (hK : vx_Back l R p e below s args y 3 W Pre Post PostX)
    {g : JFrame} (hg : g.method = m) (hsize : g.locals.size = c.maxLocals) {argsL rest : List Value} (hlen : ∀ sig, parseMethodDescriptor y.desc = some sig → argsL.length = sig.parameters.length)
    (hstack : g.stack = argsL.reverse ++ rest) (hW : 2 * g.monitorRoom + (rest.map fun v => v.category).sum ≤ W) (hdg : decode c.code g.pc = .ok (.invokestatic index, 3))
    (hpre : ∀ vm₁, s.WarmedH vm₁ → Pre ⟨T.setVm vm₁, locs, cells, slots⟩ argsL.toArray) :
    (∃ (v : Option Value) (vm₁ : Vm) (B : Pt), s.WarmedH vm₁ ∧ Stand p l e R s m args below meth c B.U B.locs B.cells B.slots ∧ Post ⟨T.setVm vm₁, locs, cells, slots⟩ argsL.toArray v B ∧
      ∀ target, Steps p.tables e below (B.U.setTop { g with pc := g.pc + 3, stack := v.toList ++ rest }) target → Steps p.tables e below (T.setTop g) target) ∨
    (∃ (q : Addr) (vm₁ : Vm) (B : Pt), s.WarmedH vm₁ ∧ Stand p l e R s m args below meth c B.U B.locs B.cells B.slots ∧ PostX ⟨T.setVm vm₁, locs, cells, slots⟩ argsL.toArray q B ∧
      Steps p.tables e below (T.setTop g) ((B.U.setTop { g with stack := rest }).pushFrame (.throwing q))) := by
  obtain ⟨mk, hnamed⟩ := Cond.code_named hcode
  obtain ⟨methM, cM, hmethM, -, -, -, -, -, -, hsigM⟩ := Cond.code_spec hnamed hcode
  have hstatic : methM.isStatic = true := Cond.static_spec hnamed hmethM hstat
  obtain ⟨kP, hkP, -⟩ := className_of_methodNamed hnamed
  have hinitP : kP.init = .initialized := Cond.initialized_spec (findClass_of_methodNamed hnamed) hkP hinit
  obtain ⟨vm₁, X₁, hstep₁⟩ := X.invokestaticNest hexec hown hlink hnamed hmethM hstatic hkP hinitP hy (g := g) hg (argsL := argsL) (rest := rest) (hlen _ hsigM) hstack hdg
  rcases hK m meth c ⟨T.setVm vm₁, locs, cells, slots⟩ { g with stack := rest } (.invokestatic index) mk argsL.toArray X₁ hg hsize hdg hW (X₁.named hnamed) (hpre vm₁ X₁.warmed) with ⟨v, B, X', hpost, hsteps⟩ | ⟨q, B, X', hpost, hsteps⟩
  · exact Or.inl ⟨v, vm₁, B, X₁.warmed, X', hpost, fun target h => hstep₁ _ fun acts => by rw [doInvoke_state]; exact hsteps.trans h⟩
  · exact Or.inr ⟨q, vm₁, B, X₁.warmed, X', hpost, hstep₁ _ fun acts => by rw [doInvoke_state]; exact hsteps⟩
theorem vx_runVN {y : MethodName} {bytes cc : ByteArray} {maxL nL mc ms n index : Nat} {ret : Option FieldType} {ws : List Cond} {rm : Room} {Pc : Array Value → State → Prop} {Qc : Array Value → State → Outcome → State → Prop} {XC : String → State → State → Prop} {free : Addr → Prop} {Ts : List Cond} {own C host : String} {b : Addr} {As rest : List Value} {g : JFrame}
    (S : CallFix p m c cc nL s args Ts own) (hM : vx_Met l y ws rm Pc Qc XC mc ms free) (cw : va_CN R s args own index y host bytes maxL ret ws rm mc ms n ∧ (Cond.instanceMethod y).before args s = true ∧ (Cond.selects C y y).before args s = true) (hp : PreV s H C b Pc As)
    (hg : g.method = m) (hn : As.length = n) (hsize : g.locals.size = nL) (hstack : g.stack = As.reverse ++ .ref b :: rest) (hW : 2 * g.monitorRoom + (rest.map fun v => v.category).sum ≤ 8) (hdg : decode cc g.pc = .ok (.invokevirtual index, 3)) (hf : cells + mc ≤ R.cells ∧ slots + ms ≤ R.slots) :
    vx_Run p l e R s m args below meth c H locs cells slots mc ms g rest (Qc (Value.ref b :: As).toArray) XC free := by
  obtain ⟨⟨⟨hrc, hrs, hfr, hlo, hws, hcw⟩, hcode, hini, hy, hlen, hl⟩, hx1, hx2⟩ := cw
  have hK : vx_Back l R p e below s args y 3 8 (PreOf R mc ms Pc) (PostOf Qc mc ms free) (vx_Post XC mc ms free) := vx_back (bytes := bytes) (maxL := maxL) (ret := ret) hM hp.1 hrc hrs hfr hlo hws hcw (fun a' U hW => word_at hW (Or.inl (by first | rfl | simp [Cond.onTables, Cond.keeps, Cond.steady])) hini)
  obtain ⟨hx, hb, hml, ho, -⟩ := S
  obtain ⟨-, ⟨cellB, hcB, hoB, hclB⟩, hPc⟩ := hp
  intro T hT X
  rcases vx_callVN X hx (C := C) (bytes := bytes) (maxL := maxL) (ret := ret) ho hl hx1 hx2 hcode hy hK (by rw [hT]; exact hcB) hoB hclB hg (hsize.trans hml.symm) (argsL := As) (rest := rest) (fun sig h => hn.trans (hlen sig h)) hstack hW (by rw [hb]; exact hdg)
    (fun vm₁ hW₁ => ⟨hf.1, hf.2, hPc (T.setVm vm₁) hT hW₁⟩) with ⟨v, vm₁, ⟨U', l2, c2, s2⟩, hW₁, X', ⟨g', mk, t, L, e1, e2, hq, h1, hL, h2, h3⟩, st⟩ | ⟨q, vm₁, ⟨U', l2, c2, s2⟩, hW₁, X', ⟨g', mk, t, L, E, ce, e1, e2, hq, hce, hcv, hcl, h1, hL, h2, h3⟩, st⟩
  · dsimp only [Pt.U, Pt.locs, Pt.cells, Pt.slots] at X' e1 e2 h1 h2 h3 st
    subst h1; subst h2; subst h3
    exact Or.inl ⟨v, (T.setVm vm₁).calling g' mk (Value.ref b :: As).toArray, t, U', L, hT, X', hL, e1, e2, hq, st⟩
  · dsimp only [Pt.U, Pt.locs, Pt.cells, Pt.slots] at X' e1 e2 h1 h2 h3 st hcl
    subst h1; subst h2; subst h3
    exact Or.inr ⟨q, (T.setVm vm₁).calling g' mk (Value.ref b :: As).toArray, t, U', L, E, ce, hT, X', hL, e1, e2, hq, hce, hcv, vx_cls hW₁ hcl, st⟩
theorem vx_runSN {y : MethodName} {bytes cc : ByteArray} {maxL nL mc ms n index : Nat} {ret : Option FieldType} {ws : List Cond} {rm : Room} {Pc : Array Value → State → Prop} {Qc : Array Value → State → Outcome → State → Prop} {XC : String → State → State → Prop} {free : Addr → Prop} {Ts : List Cond} {own host : String} {As rest : List Value} {g : JFrame}
    (S : CallFix p m c cc nL s args Ts own) (hM : vx_Met l y ws rm Pc Qc XC mc ms free) (cw : va_CN R s args own index y host bytes maxL ret ws rm mc ms n ∧ (Cond.static y).before args s = true ∧ True) (hp : PreS s H Pc As)
    (hg : g.method = m) (hn : As.length = n) (hsize : g.locals.size = nL) (hstack : g.stack = As.reverse ++ rest) (hW : 2 * g.monitorRoom + (rest.map fun v => v.category).sum ≤ 8) (hdg : decode cc g.pc = .ok (.invokestatic index, 3)) (hf : cells + mc ≤ R.cells ∧ slots + ms ≤ R.slots) :
    vx_Run p l e R s m args below meth c H locs cells slots mc ms g rest (Qc As.toArray) XC free := by
  obtain ⟨⟨⟨hrc, hrs, hfr, hlo, hws, hcw⟩, hcode, hini, hy, hlen, hl⟩, hx1, hx2⟩ := cw
  have hK : vx_Back l R p e below s args y 3 8 (PreOf R mc ms Pc) (PostOf Qc mc ms free) (vx_Post XC mc ms free) := vx_back (bytes := bytes) (maxL := maxL) (ret := ret) hM hp.1 hrc hrs hfr hlo hws hcw (fun a' U hW => word_at hW (Or.inl (by first | rfl | simp [Cond.onTables, Cond.keeps, Cond.steady])) hini)
  obtain ⟨hx, hb, hml, ho, -⟩ := S
  have hPc := hp.2
  intro T hT X
  rcases vx_callSN X hx (bytes := bytes) (maxL := maxL) (ret := ret) ho hl hx1 hini hcode hy hK hg (hsize.trans hml.symm) (argsL := As) (rest := rest) (fun sig h => hn.trans (hlen sig h)) hstack hW (by rw [hb]; exact hdg)
    (fun vm₁ hW₁ => ⟨hf.1, hf.2, hPc (T.setVm vm₁) hT hW₁⟩) with ⟨v, vm₁, ⟨U', l2, c2, s2⟩, hW₁, X', ⟨g', mk, t, L, e1, e2, hq, h1, hL, h2, h3⟩, st⟩ | ⟨q, vm₁, ⟨U', l2, c2, s2⟩, hW₁, X', ⟨g', mk, t, L, E, ce, e1, e2, hq, hce, hcv, hcl, h1, hL, h2, h3⟩, st⟩
  · dsimp only [Pt.U, Pt.locs, Pt.cells, Pt.slots] at X' e1 e2 h1 h2 h3 st
    subst h1; subst h2; subst h3
    exact Or.inl ⟨v, (T.setVm vm₁).calling g' mk As.toArray, t, U', L, hT, X', hL, e1, e2, hq, st⟩
  · dsimp only [Pt.U, Pt.locs, Pt.cells, Pt.slots] at X' e1 e2 h1 h2 h3 st hcl
    subst h1; subst h2; subst h3
    exact Or.inr ⟨q, (T.setVm vm₁).calling g' mk As.toArray, t, U', L, E, ce, hT, X', hL, e1, e2, hq, hce, hcv, vx_cls hW₁ hcl, st⟩
end
/-! ===== END ===== -/
/-! ===== BEGIN calls by an interface of methods that may throw (vx_callIF, vx_runF follow va_callIF, va_runF of this kit) ===== -/
section
variable {p : Program} {l : Launch} {e : Env} {R : Room} {s : State} {m : MethodId} {args : Array Value} {below : List Frame} {meth : Method} {c : Code} {H : Heap} {locs : List Loc} {cells slots : Nat} {Q : State → Prop}
variable {mc ms : Nat} {free : Addr → Prop} {A0 A1 : Nat → Prop} {H0 : Heap} {a : Array Value} {pc : Nat} {ls : Array Slot} {st0 rest : List Value}
def vx_Run5 (p : Program) (l : Launch) (e : Env) (R : Room) (s : State) (m : MethodId) (args : Array Value) (below : List Frame) (meth : Method) (c : Code) (H : Heap) (locs : List Loc) (cells slots mc ms : Nat) (g : JFrame) (rest : List Value) (Qa : State → Outcome → State → Prop) (XC : String → State → State → Prop) (free : Addr → Prop) : Prop :=
  ∀ T : State, T.heap = H → Stand p l e R s m args below meth c T locs cells slots →
    (∃ (v : Option Value) (st₀ t T' : State) (L : List Loc), st₀.heap = H ∧ Stand p l e R s m args below meth c T' (locs ++ L) (cells + mc) (slots + ms) ∧ (∀ q ∈ L, free q.base) ∧ T'.heap = t.heap ∧ T'.vm = t.vm ∧ Qa st₀ (.returned v) t ∧
      Goes p e below T g T' { g with pc := g.pc + 5, stack := v.toList ++ rest }) ∨
    (∃ (q : Addr) (st₀ t T' : State) (L : List Loc) (E : String) (ce : Cell), st₀.heap = H ∧ Stand p l e R s m args below meth c T' (locs ++ L) (cells + mc) (slots + ms) ∧ (∀ z ∈ L, free z.base) ∧ T'.heap = t.heap ∧ T'.vm = t.vm ∧ XC E st₀ t ∧ t.heap[q]? = some ce ∧ ce.vm = .none ∧ s.vm.findClass E = some ce.cls ∧
      Steps p.tables e below (T.setTop g) ((T'.setTop { g with stack := rest }).pushFrame (.throwing q)))
theorem vx_callIF {T : State} (X : Stand p l e R s m args below meth c T locs cells slots) (hexec : p.tables.exec = Jvm.exec) {own C : String} {index count : Nat} {x y : MethodName} {bytes : ByteArray} {maxL : Nat} {ret : Option FieldType}
    (hown : s.vm.findClass own = some m.cls) (hlink : (Cond.methodLink own index x).before args s = true) (hdecl : (Cond.declares x).before args s = true) (hface : (Cond.interfaceMethod x.cls x.cls x.name x.desc).before args s = true)
    (hsel : (Cond.selects C x y).before args s = true) (hinst : (Cond.instanceMethod y).before args s = true) (hpub : (Cond.publicMethod y).before args s = true) (hunh : (Cond.unhidden C x.name x.desc).before args s = true)
    (hcast : (Cond.castable C x.cls).before args s = true) (hcode : (Cond.code y bytes maxL ret).before args s = true) (hx : x.cls ≠ "java/lang/invoke/MethodHandle" ∧ x.cls ≠ "java/lang/invoke/VarHandle")
    {W9 : Nat} {Pre : Pt → Array Value → Prop} {Post : Pt → Array Value → Option Value → Pt → Prop} {PostX : Pt → Array Value → Addr → Pt → Prop} (hK : vx_Back l R p e below s args y 5 W9 Pre Post PostX)
    {b : Addr} {cellB : Cell} {kB : Class} (hcell : T.heap[b]? = some cellB) (hobj : cellB.vm.isStatics = false) (hcls : s.vm.findClass C = some cellB.cls) (hkB : s.vm.classes[cellB.cls]? = some kB)
    {g : JFrame} (hg : g.method = m) (hsize : g.locals.size = c.maxLocals) {argsL rest : List Value} (hlen : ∀ sig, parseMethodDescriptor x.desc = some sig → argsL.length = sig.parameters.length)
    (hstack : g.stack = argsL.reverse ++ .ref b :: rest) (hW : 2 * g.monitorRoom + (rest.map fun v => v.category).sum ≤ W9) (hdg : decode c.code g.pc = .ok (.invokeinterface index count, 5))
    (hpre : ∀ vm₁, s.WarmedH vm₁ → Pre ⟨T.setVm vm₁, locs, cells, slots⟩ (Value.ref b :: argsL).toArray) :
    (∃ (v : Option Value) (vm₁ : Vm) (B : Pt), s.WarmedH vm₁ ∧ Stand p l e R s m args below meth c B.U B.locs B.cells B.slots ∧ Post ⟨T.setVm vm₁, locs, cells, slots⟩ (Value.ref b :: argsL).toArray v B ∧
      ∀ target, Steps p.tables e below (B.U.setTop { g with pc := g.pc + 5, stack := v.toList ++ rest }) target → Steps p.tables e below (T.setTop g) target) ∨
    (∃ (q : Addr) (vm₁ : Vm) (B : Pt), s.WarmedH vm₁ ∧ Stand p l e R s m args below meth c B.U B.locs B.cells B.slots ∧ PostX ⟨T.setVm vm₁, locs, cells, slots⟩ (Value.ref b :: argsL).toArray q B ∧
      Steps p.tables e below (T.setTop g) ((B.U.setTop { g with stack := rest }).pushFrame (.throwing q))) := by
  obtain ⟨r0, r, hn, hrm, hstR, hsigR⟩ := Cond.declares_spec hdecl
  obtain ⟨cL, kL, r1, hcL, hkL, hiL, hfoundL, hn1⟩ := Cond.interfaceMethod_spec hface
  cases hn.symm.trans hn1
  have hr0cls : r0.cls = cL := Option.some.inj ((findClass_of_methodNamed hn).symm.trans hcL)
  obtain ⟨hnameR, hdescR⟩ := name_of_methodNamed hn hrm
  obtain ⟨mk, methM, hnamed, hmethM, -, habM⟩ := Cond.instanceMethod_spec hinst
  obtain ⟨c2, r2, m2, q1, q2, q3, q4, -⟩ := Cond.selects_spec hsel
  cases hcls.symm.trans q1
  cases hfoundL.symm.trans q2
  cases hnamed.symm.trans q3
  have hselP : selectMethod e.platform s.vm cellB.cls r0 = .method mk := by rw [Launch.admits_selectMethod X.admits]; exact q4
  have hpubM : hasFlag methM.accessFlags Acc.public_ = true := Cond.publicMethod_spec hnamed hmethM hpub
  have hway : ((cellB.cls :: s.vm.superclasses cellB.cls).any fun k => (declaredIn s.vm r.name r.desc k).any fun (_, z) => z.isPrivate || z.isStatic) = false := by
    rw [hnameR, hdescR]; exact Cond.unhidden_spec hcls hunh
  obtain ⟨c3, t3, w1, w2, w3⟩ := Cond.castable_spec hcast
  cases hcls.symm.trans w1
  cases hcL.symm.trans w2
  obtain ⟨vm₁, X₁, hstep₁⟩ := X.invokeinterface hexec hown hlink hn hrm hstR (by rw [hr0cls]; exact hkL) hiL hx (a := b) (cell := cellB) (kcell := kB) hcell
    (fun z h => by rw [h] at hobj; cases hobj) hkB (by rw [hr0cls]; exact w3) hselP hmethM hway hpubM habM (g := g) hg (argsL := argsL) (rest := rest) (hlen _ hsigR) hstack hdg
  rcases hK m meth c ⟨T.setVm vm₁, locs, cells, slots⟩ { g with stack := rest } (.invokeinterface index count) mk (Value.ref b :: argsL).toArray X₁ hg hsize hdg hW (X₁.named hnamed) (hpre vm₁ X₁.warmed) with ⟨v, B, X', hpost, hsteps⟩ | ⟨q, B, X', hpost, hsteps⟩
  · exact Or.inl ⟨v, vm₁, B, X₁.warmed, X', hpost, fun target h => hstep₁ _ fun acts => by rw [doInvoke_state]; exact hsteps.trans h⟩
  · exact Or.inr ⟨q, vm₁, B, X₁.warmed, X', hpost, hstep₁ _ fun acts => by rw [doInvoke_state]; exact hsteps⟩
theorem vx_runF {x y : MethodName} {bytes cc : ByteArray} {maxL nL mc ms n index count : Nat} {ret : Option FieldType} {ws : List Cond} {rm : Room} {Pc : Array Value → State → Prop} {Qc : Array Value → State → Outcome → State → Prop} {XC : String → State → State → Prop} {free : Addr → Prop} {Ts : List Cond} {own C : String} {cC : ClassId} {b : Addr} {As rest : List Value} {g : JFrame}
    (hat : ClassAt s C cC) (S : CallFix p m c cc nL s args Ts own) (hM : vx_Met l y ws rm Pc Qc XC mc ms free) (cw : va_CI R s args own C index x y bytes maxL ret ws rm mc ms n) (hp : PreV s H C b Pc As)
    (hg : g.method = m) (hn : As.length = n) (hsize : g.locals.size = nL) (hstack : g.stack = As.reverse ++ .ref b :: rest) (hW : 2 * g.monitorRoom + (rest.map fun v => v.category).sum ≤ 8) (hdg : decode cc g.pc = .ok (.invokeinterface index count, 5)) (hf : cells + mc ≤ R.cells ∧ slots + ms ≤ R.slots) :
    vx_Run5 p l e R s m args below meth c H locs cells slots mc ms g rest (Qc (Value.ref b :: As).toArray) XC free := by
  obtain ⟨hrc, hrs, hfr, hlo, hws, hcw⟩ := cw.back
  have hini := cw.init
  have hK : vx_Back l R p e below s args y 5 8 (PreOf R mc ms Pc) (PostOf Qc mc ms free) (vx_Post XC mc ms free) := vx_back (bytes := bytes) (maxL := maxL) (ret := ret) hM hp.1 hrc hrs hfr hlo hws hcw (fun a' U hW => word_at hW (Or.inl (by first | rfl | simp [Cond.onTables, Cond.keeps, Cond.steady])) hini)
  obtain ⟨hx, hb, hml, ho, -⟩ := S
  obtain ⟨-, ⟨cellB, hcB, hoB, hclB⟩, hPc⟩ := hp
  obtain ⟨hfc, kB, hkB, -⟩ := hat
  cases hfc.symm.trans hclB
  intro T hT X
  rcases vx_callIF X hx (C := C) (bytes := bytes) (maxL := maxL) (ret := ret) ho cw.link cw.decl cw.face cw.sel cw.inst cw.pub cw.unh cw.cast cw.code cw.notMH hK (by rw [hT]; exact hcB) hoB hclB hkB hg (hsize.trans hml.symm) (argsL := As) (rest := rest) (fun sig h => hn.trans (cw.len sig h)) hstack hW (by rw [hb]; exact hdg)
    (fun vm₁ hW₁ => ⟨hf.1, hf.2, hPc (T.setVm vm₁) hT hW₁⟩) with ⟨v, vm₁, ⟨U', l2, c2, s2⟩, hW₁, X', ⟨g', mk, t, L, e1, e2, hq, h1, hL, h2, h3⟩, st⟩ | ⟨q, vm₁, ⟨U', l2, c2, s2⟩, hW₁, X', ⟨g', mk, t, L, E, ce, e1, e2, hq, hce, hcv, hcl, h1, hL, h2, h3⟩, st⟩
  · dsimp only [Pt.U, Pt.locs, Pt.cells, Pt.slots] at X' e1 e2 h1 h2 h3 st
    subst h1; subst h2; subst h3
    exact Or.inl ⟨v, (T.setVm vm₁).calling g' mk (Value.ref b :: As).toArray, t, U', L, hT, X', hL, e1, e2, hq, st⟩
  · dsimp only [Pt.U, Pt.locs, Pt.cells, Pt.slots] at X' e1 e2 h1 h2 h3 st hcl
    subst h1; subst h2; subst h3
    exact Or.inr ⟨q, (T.setVm vm₁).calling g' mk (Value.ref b :: As).toArray, t, U', L, E, ce, hT, X', hL, e1, e2, hq, hce, hcv, vx_cls hW₁ hcl, st⟩
theorem vx_callFv {S SX : Type} {post : S → Prop} {px : SX → Prop} {B : S → State → Prop} {BX : String → SX → State → Prop} {AX : Nat → Prop} (hr : vx_Run5 p l e R s m args below meth c H locs cells slots mc ms (F0 m pc ls st0) rest (va_Qv post B A1 a) (vx_X px BX AX) free) (hS : va_S A0 H0 H locs) (hA : ∀ q, q < H.size → A1 q → A0 q) (hf : ∀ q, free q → A0 q) (hAX : ∀ q, q < H.size → AX q → A0 q)
    (kx : ∀ (E : String) (ce : Cell) (q9 : Addr) (u : SX) (t : State) (H1 : Heap) (locs1 : List Loc), t.heap = H1 → s.vm.Alike t.vm → px u → BX E u t → H.size ≤ H1.size → (∀ q : Nat, q < H.size → ¬ AX q → H1[q]? = H[q]?) → va_S A0 H0 H1 locs1 → H1[q9]? = some ce → ce.vm = .none → s.vm.findClass E = some ce.cls → vx_W p l e R s m args below meth c H1 locs1 (cells + mc) (slots + ms) Q (F0 m pc ls rest) q9)
    (kk : ∀ (u : S) (t : State) (H1 : Heap) (locs1 : List Loc), t.heap = H1 → s.vm.Alike t.vm → post u → B u t → H.size ≤ H1.size → (∀ q : Nat, q < H.size → ¬ A1 q → H1[q]? = H[q]?) → va_S A0 H0 H1 locs1 → W p l e R s m args below meth c H1 locs1 (cells + mc) (slots + ms) Q (F0 m (pc + 5) ls (rest))) : W p l e R s m args below meth c H locs cells slots Q (F0 m pc ls st0) := by
  intro T hT X
  rcases hr T hT X with ⟨v, st₀, t, T', L, h0, X', hL, e1, e2, ⟨⟨u, hv, hp, hb⟩, hF⟩, st⟩ | ⟨q, st₀, t, T', L, E, ce, h0, X', hL, e1, e2, ⟨u, hp, hb, hF⟩, hce, hcv, hcl, st⟩
  · cases hv
    obtain ⟨k1, k2, k3⟩ := vx_keep h0 e1 hS hA hf hL hF
    obtain ⟨t2, a1, b1⟩ := kk u t T'.heap (locs ++ L) e1.symm (by rw [← e2]; exact X'.warmed.alike) hp hb k1 k2 k3 T' rfl X'
    exact ⟨t2, st t2 a1, b1⟩
  · obtain ⟨k1, k2, k3⟩ := vx_keep h0 e1 hS hAX hf hL hF
    obtain ⟨t2, a1, b1⟩ := kx E ce q u t T'.heap (locs ++ L) e1.symm (by rw [← e2]; exact X'.warmed.alike) hp hb k1 k2 k3 (by rw [e1]; exact hce) hcv hcl T' rfl X'
    exact ⟨t2, st.trans a1, b1⟩
theorem vx_callFi {S SX : Type} {post : Int32 → S → Prop} {px : SX → Prop} {B : S → State → Prop} {BX : String → SX → State → Prop} {AX : Nat → Prop} (hr : vx_Run5 p l e R s m args below meth c H locs cells slots mc ms (F0 m pc ls st0) rest (va_Qi post B A1 a) (vx_X px BX AX) free) (hS : va_S A0 H0 H locs) (hA : ∀ q, q < H.size → A1 q → A0 q) (hf : ∀ q, free q → A0 q) (hAX : ∀ q, q < H.size → AX q → A0 q)
    (kx : ∀ (E : String) (ce : Cell) (q9 : Addr) (u : SX) (t : State) (H1 : Heap) (locs1 : List Loc), t.heap = H1 → s.vm.Alike t.vm → px u → BX E u t → H.size ≤ H1.size → (∀ q : Nat, q < H.size → ¬ AX q → H1[q]? = H[q]?) → va_S A0 H0 H1 locs1 → H1[q9]? = some ce → ce.vm = .none → s.vm.findClass E = some ce.cls → vx_W p l e R s m args below meth c H1 locs1 (cells + mc) (slots + ms) Q (F0 m pc ls rest) q9)
    (kk : ∀ (r : Int32) (u : S) (t : State) (H1 : Heap) (locs1 : List Loc), t.heap = H1 → s.vm.Alike t.vm → post r u → B u t → H.size ≤ H1.size → (∀ q : Nat, q < H.size → ¬ A1 q → H1[q]? = H[q]?) → va_S A0 H0 H1 locs1 → W p l e R s m args below meth c H1 locs1 (cells + mc) (slots + ms) Q (F0 m (pc + 5) ls (.int r :: rest))) : W p l e R s m args below meth c H locs cells slots Q (F0 m pc ls st0) := by
  intro T hT X
  rcases hr T hT X with ⟨v, st₀, t, T', L, h0, X', hL, e1, e2, ⟨⟨r, u, hv, hp, hb⟩, hF⟩, st⟩ | ⟨q, st₀, t, T', L, E, ce, h0, X', hL, e1, e2, ⟨u, hp, hb, hF⟩, hce, hcv, hcl, st⟩
  · cases hv
    obtain ⟨k1, k2, k3⟩ := vx_keep h0 e1 hS hA hf hL hF
    obtain ⟨t2, a1, b1⟩ := kk r u t T'.heap (locs ++ L) e1.symm (by rw [← e2]; exact X'.warmed.alike) hp hb k1 k2 k3 T' rfl X'
    exact ⟨t2, st t2 a1, b1⟩
  · obtain ⟨k1, k2, k3⟩ := vx_keep h0 e1 hS hAX hf hL hF
    obtain ⟨t2, a1, b1⟩ := kx E ce q u t T'.heap (locs ++ L) e1.symm (by rw [← e2]; exact X'.warmed.alike) hp hb k1 k2 k3 (by rw [e1]; exact hce) hcv hcl T' rfl X'
    exact ⟨t2, st.trans a1, b1⟩
theorem vx_callFl {S SX : Type} {post : Int64 → S → Prop} {px : SX → Prop} {B : S → State → Prop} {BX : String → SX → State → Prop} {AX : Nat → Prop} (hr : vx_Run5 p l e R s m args below meth c H locs cells slots mc ms (F0 m pc ls st0) rest (va_Ql post B A1 a) (vx_X px BX AX) free) (hS : va_S A0 H0 H locs) (hA : ∀ q, q < H.size → A1 q → A0 q) (hf : ∀ q, free q → A0 q) (hAX : ∀ q, q < H.size → AX q → A0 q)
    (kx : ∀ (E : String) (ce : Cell) (q9 : Addr) (u : SX) (t : State) (H1 : Heap) (locs1 : List Loc), t.heap = H1 → s.vm.Alike t.vm → px u → BX E u t → H.size ≤ H1.size → (∀ q : Nat, q < H.size → ¬ AX q → H1[q]? = H[q]?) → va_S A0 H0 H1 locs1 → H1[q9]? = some ce → ce.vm = .none → s.vm.findClass E = some ce.cls → vx_W p l e R s m args below meth c H1 locs1 (cells + mc) (slots + ms) Q (F0 m pc ls rest) q9)
    (kk : ∀ (r : Int64) (u : S) (t : State) (H1 : Heap) (locs1 : List Loc), t.heap = H1 → s.vm.Alike t.vm → post r u → B u t → H.size ≤ H1.size → (∀ q : Nat, q < H.size → ¬ A1 q → H1[q]? = H[q]?) → va_S A0 H0 H1 locs1 → W p l e R s m args below meth c H1 locs1 (cells + mc) (slots + ms) Q (F0 m (pc + 5) ls (.long r :: rest))) : W p l e R s m args below meth c H locs cells slots Q (F0 m pc ls st0) := by
  intro T hT X
  rcases hr T hT X with ⟨v, st₀, t, T', L, h0, X', hL, e1, e2, ⟨⟨r, u, hv, hp, hb⟩, hF⟩, st⟩ | ⟨q, st₀, t, T', L, E, ce, h0, X', hL, e1, e2, ⟨u, hp, hb, hF⟩, hce, hcv, hcl, st⟩
  · cases hv
    obtain ⟨k1, k2, k3⟩ := vx_keep h0 e1 hS hA hf hL hF
    obtain ⟨t2, a1, b1⟩ := kk r u t T'.heap (locs ++ L) e1.symm (by rw [← e2]; exact X'.warmed.alike) hp hb k1 k2 k3 T' rfl X'
    exact ⟨t2, st t2 a1, b1⟩
  · obtain ⟨k1, k2, k3⟩ := vx_keep h0 e1 hS hAX hf hL hF
    obtain ⟨t2, a1, b1⟩ := kx E ce q u t T'.heap (locs ++ L) e1.symm (by rw [← e2]; exact X'.warmed.alike) hp hb k1 k2 k3 (by rw [e1]; exact hce) hcv hcl T' rfl X'
    exact ⟨t2, st.trans a1, b1⟩
theorem vx_callFf {S SX : Type} {post : UInt32 → S → Prop} {px : SX → Prop} {B : S → State → Prop} {BX : String → SX → State → Prop} {AX : Nat → Prop} (hr : vx_Run5 p l e R s m args below meth c H locs cells slots mc ms (F0 m pc ls st0) rest (va_Qf post B A1 a) (vx_X px BX AX) free) (hS : va_S A0 H0 H locs) (hA : ∀ q, q < H.size → A1 q → A0 q) (hf : ∀ q, free q → A0 q) (hAX : ∀ q, q < H.size → AX q → A0 q)
    (kx : ∀ (E : String) (ce : Cell) (q9 : Addr) (u : SX) (t : State) (H1 : Heap) (locs1 : List Loc), t.heap = H1 → s.vm.Alike t.vm → px u → BX E u t → H.size ≤ H1.size → (∀ q : Nat, q < H.size → ¬ AX q → H1[q]? = H[q]?) → va_S A0 H0 H1 locs1 → H1[q9]? = some ce → ce.vm = .none → s.vm.findClass E = some ce.cls → vx_W p l e R s m args below meth c H1 locs1 (cells + mc) (slots + ms) Q (F0 m pc ls rest) q9)
    (kk : ∀ (r : UInt32) (u : S) (t : State) (H1 : Heap) (locs1 : List Loc), t.heap = H1 → s.vm.Alike t.vm → post r u → B u t → H.size ≤ H1.size → (∀ q : Nat, q < H.size → ¬ A1 q → H1[q]? = H[q]?) → va_S A0 H0 H1 locs1 → W p l e R s m args below meth c H1 locs1 (cells + mc) (slots + ms) Q (F0 m (pc + 5) ls (.float r :: rest))) : W p l e R s m args below meth c H locs cells slots Q (F0 m pc ls st0) := by
  intro T hT X
  rcases hr T hT X with ⟨v, st₀, t, T', L, h0, X', hL, e1, e2, ⟨⟨r, u, hv, hp, hb⟩, hF⟩, st⟩ | ⟨q, st₀, t, T', L, E, ce, h0, X', hL, e1, e2, ⟨u, hp, hb, hF⟩, hce, hcv, hcl, st⟩
  · cases hv
    obtain ⟨k1, k2, k3⟩ := vx_keep h0 e1 hS hA hf hL hF
    obtain ⟨t2, a1, b1⟩ := kk r u t T'.heap (locs ++ L) e1.symm (by rw [← e2]; exact X'.warmed.alike) hp hb k1 k2 k3 T' rfl X'
    exact ⟨t2, st t2 a1, b1⟩
  · obtain ⟨k1, k2, k3⟩ := vx_keep h0 e1 hS hAX hf hL hF
    obtain ⟨t2, a1, b1⟩ := kx E ce q u t T'.heap (locs ++ L) e1.symm (by rw [← e2]; exact X'.warmed.alike) hp hb k1 k2 k3 (by rw [e1]; exact hce) hcv hcl T' rfl X'
    exact ⟨t2, st.trans a1, b1⟩
theorem vx_callFd {S SX : Type} {post : UInt64 → S → Prop} {px : SX → Prop} {B : S → State → Prop} {BX : String → SX → State → Prop} {AX : Nat → Prop} (hr : vx_Run5 p l e R s m args below meth c H locs cells slots mc ms (F0 m pc ls st0) rest (va_Qd post B A1 a) (vx_X px BX AX) free) (hS : va_S A0 H0 H locs) (hA : ∀ q, q < H.size → A1 q → A0 q) (hf : ∀ q, free q → A0 q) (hAX : ∀ q, q < H.size → AX q → A0 q)
    (kx : ∀ (E : String) (ce : Cell) (q9 : Addr) (u : SX) (t : State) (H1 : Heap) (locs1 : List Loc), t.heap = H1 → s.vm.Alike t.vm → px u → BX E u t → H.size ≤ H1.size → (∀ q : Nat, q < H.size → ¬ AX q → H1[q]? = H[q]?) → va_S A0 H0 H1 locs1 → H1[q9]? = some ce → ce.vm = .none → s.vm.findClass E = some ce.cls → vx_W p l e R s m args below meth c H1 locs1 (cells + mc) (slots + ms) Q (F0 m pc ls rest) q9)
    (kk : ∀ (r : UInt64) (u : S) (t : State) (H1 : Heap) (locs1 : List Loc), t.heap = H1 → s.vm.Alike t.vm → post r u → B u t → H.size ≤ H1.size → (∀ q : Nat, q < H.size → ¬ A1 q → H1[q]? = H[q]?) → va_S A0 H0 H1 locs1 → W p l e R s m args below meth c H1 locs1 (cells + mc) (slots + ms) Q (F0 m (pc + 5) ls (.double r :: rest))) : W p l e R s m args below meth c H locs cells slots Q (F0 m pc ls st0) := by
  intro T hT X
  rcases hr T hT X with ⟨v, st₀, t, T', L, h0, X', hL, e1, e2, ⟨⟨r, u, hv, hp, hb⟩, hF⟩, st⟩ | ⟨q, st₀, t, T', L, E, ce, h0, X', hL, e1, e2, ⟨u, hp, hb, hF⟩, hce, hcv, hcl, st⟩
  · cases hv
    obtain ⟨k1, k2, k3⟩ := vx_keep h0 e1 hS hA hf hL hF
    obtain ⟨t2, a1, b1⟩ := kk r u t T'.heap (locs ++ L) e1.symm (by rw [← e2]; exact X'.warmed.alike) hp hb k1 k2 k3 T' rfl X'
    exact ⟨t2, st t2 a1, b1⟩
  · obtain ⟨k1, k2, k3⟩ := vx_keep h0 e1 hS hAX hf hL hF
    obtain ⟨t2, a1, b1⟩ := kx E ce q u t T'.heap (locs ++ L) e1.symm (by rw [← e2]; exact X'.warmed.alike) hp hb k1 k2 k3 (by rw [e1]; exact hce) hcv hcl T' rfl X'
    exact ⟨t2, st.trans a1, b1⟩
end
/-! ===== END ===== -/
/-! ===== BEGIN by an interface, a method with a table of its own that may throw (follows va_callIFW, va_runFW) ===== -/
section
variable {p : Program} {l : Launch} {e : Env} {R : Room} {s : State} {m : MethodId} {args : Array Value} {below : List Frame} {meth : Method} {c : Code} {H : Heap} {locs : List Loc} {cells slots : Nat}
theorem vx_callIFW {T : State} (X : Stand p l e R s m args below meth c T locs cells slots) (hexec : p.tables.exec = Jvm.exec) {own C : String} {index count : Nat} {x y : MethodName} {bytes : ByteArray} {maxL : Nat} {ret : Option FieldType} {hh : List (Nat × Nat × Nat × Nat)}
    (hown : s.vm.findClass own = some m.cls) (hlink : (Cond.methodLink own index x).before args s = true) (hdecl : (Cond.declares x).before args s = true) (hface : (Cond.interfaceMethod x.cls x.cls x.name x.desc).before args s = true)
    (hsel : (Cond.selects C x y).before args s = true) (hinst : (Cond.instanceMethod y).before args s = true) (hpub : (Cond.publicMethod y).before args s = true) (hunh : (Cond.unhidden C x.name x.desc).before args s = true)
    (hcast : (Cond.castable C x.cls).before args s = true) (hcode : (Cond.codeWith y bytes maxL ret hh).before args s = true) (hx : x.cls ≠ "java/lang/invoke/MethodHandle" ∧ x.cls ≠ "java/lang/invoke/VarHandle")
    {W : Nat} {Pre : Pt → Array Value → Prop} {Post : Pt → Array Value → Option Value → Pt → Prop} {PostX : Pt → Array Value → Addr → Pt → Prop} (hK : vx_Back l R p e below s args y 5 W Pre Post PostX)
    {b : Addr} {cellB : Cell} {kB : Class} (hcell : T.heap[b]? = some cellB) (hobj : cellB.vm.isStatics = false) (hcls : s.vm.findClass C = some cellB.cls) (hkB : s.vm.classes[cellB.cls]? = some kB)
    {g : JFrame} (hg : g.method = m) (hsize : g.locals.size = c.maxLocals) {argsL rest : List Value} (hlen : ∀ sig, parseMethodDescriptor x.desc = some sig → argsL.length = sig.parameters.length)
    (hstack : g.stack = argsL.reverse ++ .ref b :: rest) (hW : 2 * g.monitorRoom + (rest.map fun v => v.category).sum ≤ W) (hdg : decode c.code g.pc = .ok (.invokeinterface index count, 5))
    (hpre : ∀ vm₁, s.WarmedH vm₁ → Pre ⟨T.setVm vm₁, locs, cells, slots⟩ (Value.ref b :: argsL).toArray) :
    (∃ (v : Option Value) (vm₁ : Vm) (B : Pt), s.WarmedH vm₁ ∧ Stand p l e R s m args below meth c B.U B.locs B.cells B.slots ∧ Post ⟨T.setVm vm₁, locs, cells, slots⟩ (Value.ref b :: argsL).toArray v B ∧
      ∀ target, Steps p.tables e below (B.U.setTop { g with pc := g.pc + 5, stack := v.toList ++ rest }) target → Steps p.tables e below (T.setTop g) target) ∨
    (∃ (q : Addr) (vm₁ : Vm) (B : Pt), s.WarmedH vm₁ ∧ Stand p l e R s m args below meth c B.U B.locs B.cells B.slots ∧ PostX ⟨T.setVm vm₁, locs, cells, slots⟩ (Value.ref b :: argsL).toArray q B ∧
      Steps p.tables e below (T.setTop g) ((B.U.setTop { g with stack := rest }).pushFrame (.throwing q))) := by
  obtain ⟨r0, r, hn, hrm, hstR, hsigR⟩ := Cond.declares_spec hdecl
  obtain ⟨cL, kL, r1, hcL, hkL, hiL, hfoundL, hn1⟩ := Cond.interfaceMethod_spec hface
  cases hn.symm.trans hn1
  have hr0cls : r0.cls = cL := Option.some.inj ((findClass_of_methodNamed hn).symm.trans hcL)
  obtain ⟨hnameR, hdescR⟩ := name_of_methodNamed hn hrm
  obtain ⟨mk, methM, hnamed, hmethM, -, habM⟩ := Cond.instanceMethod_spec hinst
  obtain ⟨c2, r2, m2, q1, q2, q3, q4, -⟩ := Cond.selects_spec hsel
  cases hcls.symm.trans q1
  cases hfoundL.symm.trans q2
  cases hnamed.symm.trans q3
  have hselP : selectMethod e.platform s.vm cellB.cls r0 = .method mk := by rw [Launch.admits_selectMethod X.admits]; exact q4
  have hpubM : hasFlag methM.accessFlags Acc.public_ = true := Cond.publicMethod_spec hnamed hmethM hpub
  have hway : ((cellB.cls :: s.vm.superclasses cellB.cls).any fun k => (declaredIn s.vm r.name r.desc k).any fun (_, z) => z.isPrivate || z.isStatic) = false := by
    rw [hnameR, hdescR]; exact Cond.unhidden_spec hcls hunh
  obtain ⟨c3, t3, w1, w2, w3⟩ := Cond.castable_spec hcast
  cases hcls.symm.trans w1
  cases hcL.symm.trans w2
  obtain ⟨vm₁, X₁, hstep₁⟩ := X.invokeinterface hexec hown hlink hn hrm hstR (by rw [hr0cls]; exact hkL) hiL hx (a := b) (cell := cellB) (kcell := kB) hcell
    (fun z h => by rw [h] at hobj; cases hobj) hkB (by rw [hr0cls]; exact w3) hselP hmethM hway hpubM habM (g := g) hg (argsL := argsL) (rest := rest) (hlen _ hsigR) hstack hdg
  rcases hK m meth c ⟨T.setVm vm₁, locs, cells, slots⟩ { g with stack := rest } (.invokeinterface index count) mk (Value.ref b :: argsL).toArray X₁ hg hsize hdg hW (X₁.named hnamed) (hpre vm₁ X₁.warmed) with ⟨v, B, X', hpost, hsteps⟩ | ⟨q, B, X', hpost, hsteps⟩
  · exact Or.inl ⟨v, vm₁, B, X₁.warmed, X', hpost, fun target h => hstep₁ _ fun acts => by rw [doInvoke_state]; exact hsteps.trans h⟩
  · exact Or.inr ⟨q, vm₁, B, X₁.warmed, X', hpost, hstep₁ _ fun acts => by rw [doInvoke_state]; exact hsteps⟩
theorem vx_runFW {x y : MethodName} {bytes cc : ByteArray} {maxL nL mc ms n index count : Nat} {ret : Option FieldType} {hh : List (Nat × Nat × Nat × Nat)} {ws : List Cond} {rm : Room} {Pc : Array Value → State → Prop} {Qc : Array Value → State → Outcome → State → Prop} {XC : String → State → State → Prop} {free : Addr → Prop} {Ts : List Cond} {own C : String} {cC : ClassId} {b : Addr} {As rest : List Value} {g : JFrame}
    (hat : ClassAt s C cC) (S : CallFix p m c cc nL s args Ts own) (hM : vx_Met l y ws rm Pc Qc XC mc ms free) (cw : va_CIW R s args own C index x y bytes maxL ret hh ws rm mc ms n) (hp : PreV s H C b Pc As)
    (hg : g.method = m) (hn : As.length = n) (hsize : g.locals.size = nL) (hstack : g.stack = As.reverse ++ .ref b :: rest) (hW : 2 * g.monitorRoom + (rest.map fun v => v.category).sum ≤ 8) (hdg : decode cc g.pc = .ok (.invokeinterface index count, 5)) (hf : cells + mc ≤ R.cells ∧ slots + ms ≤ R.slots) :
    vx_Run5 p l e R s m args below meth c H locs cells slots mc ms g rest (Qc (Value.ref b :: As).toArray) XC free := by
  obtain ⟨hrc, hrs, hfr, hlo, hws, hcw⟩ := cw.back
  have hini := cw.init
  have hK : vx_Back l R p e below s args y 5 8 (PreOf R mc ms Pc) (PostOf Qc mc ms free) (vx_Post XC mc ms free) := vx_backW (hh := hh) (bytes := bytes) (maxL := maxL) (ret := ret) hM hp.1 hrc hrs hfr hlo hws hcw (fun a' U hW => word_at hW (Or.inl (by first | rfl | simp [Cond.onTables, Cond.keeps, Cond.steady])) hini)
  obtain ⟨hx, hb, hml, ho, -⟩ := S
  obtain ⟨-, ⟨cellB, hcB, hoB, hclB⟩, hPc⟩ := hp
  obtain ⟨hfc, kB, hkB, -⟩ := hat
  cases hfc.symm.trans hclB
  intro T hT X
  rcases vx_callIFW X hx (C := C) (hh := hh) (bytes := bytes) (maxL := maxL) (ret := ret) ho cw.link cw.decl cw.face cw.sel cw.inst cw.pub cw.unh cw.cast cw.code cw.notMH hK (by rw [hT]; exact hcB) hoB hclB hkB hg (hsize.trans hml.symm) (argsL := As) (rest := rest) (fun sig h => hn.trans (cw.len sig h)) hstack hW (by rw [hb]; exact hdg)
    (fun vm₁ hW₁ => ⟨hf.1, hf.2, hPc (T.setVm vm₁) hT hW₁⟩) with ⟨v, vm₁, ⟨U', l2, c2, s2⟩, hW₁, X', ⟨g', mk, t, L, e1, e2, hq, h1, hL, h2, h3⟩, st⟩ | ⟨q, vm₁, ⟨U', l2, c2, s2⟩, hW₁, X', ⟨g', mk, t, L, E, ce, e1, e2, hq, hce, hcv, hcl, h1, hL, h2, h3⟩, st⟩
  · dsimp only [Pt.U, Pt.locs, Pt.cells, Pt.slots] at X' e1 e2 h1 h2 h3 st
    subst h1; subst h2; subst h3
    exact Or.inl ⟨v, (T.setVm vm₁).calling g' mk (Value.ref b :: As).toArray, t, U', L, hT, X', hL, e1, e2, hq, st⟩
  · dsimp only [Pt.U, Pt.locs, Pt.cells, Pt.slots] at X' e1 e2 h1 h2 h3 st hcl
    subst h1; subst h2; subst h3
    exact Or.inr ⟨q, (T.setVm vm₁).calling g' mk (Value.ref b :: As).toArray, t, U', L, E, ce, hT, X', hL, e1, e2, hq, hce, hcv, vx_cls hW₁ hcl, st⟩
end
/-! ===== END ===== -/
/-! ===== BEGIN .. of methods that hand back an object of the pool ===== -/
section
variable {p : Program} {l : Launch} {e : Env} {R : Room} {s : State} {m : MethodId} {args : Array Value} {below : List Frame} {meth : Method} {c : Code} {H : Heap} {locs : List Loc} {cells slots : Nat} {Q : State → Prop}
variable {mc ms : Nat} {free : Addr → Prop} {A0 A1 : Nat → Prop} {H0 : Heap} {a : Array Value} {pc : Nat} {ls : Array Slot} {st0 rest : List Value}
theorem vx_callq {S SX : Type} {post : Option Nat → S → Prop} {px : SX → Prop} {B : S → State → Prop} {BX : String → SX → State → Prop} {AX : Nat → Prop} (hr : vx_Run p l e R s m args below meth c H locs cells slots mc ms (F0 m pc ls st0) rest (va_Qq post B A1 a) (vx_X px BX AX) free) (hS : va_S A0 H0 H locs) (hA : ∀ q, q < H.size → A1 q → A0 q) (hf : ∀ q, free q → A0 q) (hAX : ∀ q, q < H.size → AX q → A0 q)
    (kx : ∀ (E : String) (ce : Cell) (q9 : Addr) (u : SX) (t : State) (H1 : Heap) (locs1 : List Loc), t.heap = H1 → s.vm.Alike t.vm → px u → BX E u t → H.size ≤ H1.size → (∀ q : Nat, q < H.size → ¬ AX q → H1[q]? = H[q]?) → va_S A0 H0 H1 locs1 → H1[q9]? = some ce → ce.vm = .none → s.vm.findClass E = some ce.cls → vx_W p l e R s m args below meth c H1 locs1 (cells + mc) (slots + ms) Q (F0 m pc ls rest) q9)
    (kk : ∀ (r : Option Nat) (u : S) (t : State) (H1 : Heap) (locs1 : List Loc), t.heap = H1 → s.vm.Alike t.vm → post r u → B u t → H.size ≤ H1.size → (∀ q : Nat, q < H.size → ¬ A1 q → H1[q]? = H[q]?) → va_S A0 H0 H1 locs1 → W p l e R s m args below meth c H1 locs1 (cells + mc) (slots + ms) Q (F0 m (pc + 3) ls (va_rf r :: rest))) : W p l e R s m args below meth c H locs cells slots Q (F0 m pc ls st0) := by
  intro T hT X
  rcases hr T hT X with ⟨v, st₀, t, T', L, h0, X', hL, e1, e2, ⟨⟨r, u, hv, hp, hb⟩, hF⟩, st⟩ | ⟨q, st₀, t, T', L, E, ce, h0, X', hL, e1, e2, ⟨u, hp, hb, hF⟩, hce, hcv, hcl, st⟩
  · cases hv
    obtain ⟨k1, k2, k3⟩ := vx_keep h0 e1 hS hA hf hL hF
    obtain ⟨t2, a1, b1⟩ := kk r u t T'.heap (locs ++ L) e1.symm (by rw [← e2]; exact X'.warmed.alike) hp hb k1 k2 k3 T' rfl X'
    exact ⟨t2, st t2 a1, b1⟩
  · obtain ⟨k1, k2, k3⟩ := vx_keep h0 e1 hS hAX hf hL hF
    obtain ⟨t2, a1, b1⟩ := kx E ce q u t T'.heap (locs ++ L) e1.symm (by rw [← e2]; exact X'.warmed.alike) hp hb k1 k2 k3 (by rw [e1]; exact hce) hcv hcl T' rfl X'
    exact ⟨t2, st.trans a1, b1⟩
end
/-! ===== END ===== -/
/-! ===== BEGIN .. a constant ===== -/
section
variable {p : Program} {l : Launch} {e : Env} {R : Room} {s : State} {m : MethodId} {args : Array Value} {below : List Frame} {meth : Method} {c : Code} {H : Heap} {locs : List Loc} {cells slots : Nat} {Q : State → Prop}
variable {mc ms : Nat} {free : Addr → Prop} {A0 A1 : Nat → Prop} {H0 : Heap} {a : Array Value} {pc : Nat} {ls : Array Slot} {st0 rest : List Value}
theorem vx_calle {ad : Nat → Nat} {S SX : Type} {post : Option Nat → S → Prop} {px : SX → Prop} {B : S → State → Prop} {BX : String → SX → State → Prop} {AX : Nat → Prop} (hr : vx_Run p l e R s m args below meth c H locs cells slots mc ms (F0 m pc ls st0) rest (va_Qe ad post B A1 a) (vx_X px BX AX) free) (hS : va_S A0 H0 H locs) (hA : ∀ q, q < H.size → A1 q → A0 q) (hf : ∀ q, free q → A0 q) (hAX : ∀ q, q < H.size → AX q → A0 q)
    (kx : ∀ (E : String) (ce : Cell) (q9 : Addr) (u : SX) (t : State) (H1 : Heap) (locs1 : List Loc), t.heap = H1 → s.vm.Alike t.vm → px u → BX E u t → H.size ≤ H1.size → (∀ q : Nat, q < H.size → ¬ AX q → H1[q]? = H[q]?) → va_S A0 H0 H1 locs1 → H1[q9]? = some ce → ce.vm = .none → s.vm.findClass E = some ce.cls → vx_W p l e R s m args below meth c H1 locs1 (cells + mc) (slots + ms) Q (F0 m pc ls rest) q9)
    (kk : ∀ (r : Option Nat) (u : S) (t : State) (H1 : Heap) (locs1 : List Loc), t.heap = H1 → s.vm.Alike t.vm → post r u → B u t → H.size ≤ H1.size → (∀ q : Nat, q < H.size → ¬ A1 q → H1[q]? = H[q]?) → va_S A0 H0 H1 locs1 → W p l e R s m args below meth c H1 locs1 (cells + mc) (slots + ms) Q (F0 m (pc + 3) ls (va_re ad r :: rest))) : W p l e R s m args below meth c H locs cells slots Q (F0 m pc ls st0) := by
  intro T hT X
  rcases hr T hT X with ⟨v, st₀, t, T', L, h0, X', hL, e1, e2, ⟨⟨r, u, hv, hp, hb⟩, hF⟩, st⟩ | ⟨q, st₀, t, T', L, E, ce, h0, X', hL, e1, e2, ⟨u, hp, hb, hF⟩, hce, hcv, hcl, st⟩
  · cases hv
    obtain ⟨k1, k2, k3⟩ := vx_keep h0 e1 hS hA hf hL hF
    obtain ⟨t2, a1, b1⟩ := kk r u t T'.heap (locs ++ L) e1.symm (by rw [← e2]; exact X'.warmed.alike) hp hb k1 k2 k3 T' rfl X'
    exact ⟨t2, st t2 a1, b1⟩
  · obtain ⟨k1, k2, k3⟩ := vx_keep h0 e1 hS hAX hf hL hF
    obtain ⟨t2, a1, b1⟩ := kx E ce q u t T'.heap (locs ++ L) e1.symm (by rw [← e2]; exact X'.warmed.alike) hp hb k1 k2 k3 (by rw [e1]; exact hce) hcv hcl T' rfl X'
    exact ⟨t2, st.trans a1, b1⟩
end
/-! ===== END ===== -/
/-! ===== BEGIN .. by an interface, an object ===== -/
section
variable {p : Program} {l : Launch} {e : Env} {R : Room} {s : State} {m : MethodId} {args : Array Value} {below : List Frame} {meth : Method} {c : Code} {H : Heap} {locs : List Loc} {cells slots : Nat} {Q : State → Prop}
variable {mc ms : Nat} {free : Addr → Prop} {A0 A1 : Nat → Prop} {H0 : Heap} {a : Array Value} {pc : Nat} {ls : Array Slot} {st0 rest : List Value}
theorem vx_callFq {S SX : Type} {post : Option Nat → S → Prop} {px : SX → Prop} {B : S → State → Prop} {BX : String → SX → State → Prop} {AX : Nat → Prop} (hr : vx_Run5 p l e R s m args below meth c H locs cells slots mc ms (F0 m pc ls st0) rest (va_Qq post B A1 a) (vx_X px BX AX) free) (hS : va_S A0 H0 H locs) (hA : ∀ q, q < H.size → A1 q → A0 q) (hf : ∀ q, free q → A0 q) (hAX : ∀ q, q < H.size → AX q → A0 q)
    (kx : ∀ (E : String) (ce : Cell) (q9 : Addr) (u : SX) (t : State) (H1 : Heap) (locs1 : List Loc), t.heap = H1 → s.vm.Alike t.vm → px u → BX E u t → H.size ≤ H1.size → (∀ q : Nat, q < H.size → ¬ AX q → H1[q]? = H[q]?) → va_S A0 H0 H1 locs1 → H1[q9]? = some ce → ce.vm = .none → s.vm.findClass E = some ce.cls → vx_W p l e R s m args below meth c H1 locs1 (cells + mc) (slots + ms) Q (F0 m pc ls rest) q9)
    (kk : ∀ (r : Option Nat) (u : S) (t : State) (H1 : Heap) (locs1 : List Loc), t.heap = H1 → s.vm.Alike t.vm → post r u → B u t → H.size ≤ H1.size → (∀ q : Nat, q < H.size → ¬ A1 q → H1[q]? = H[q]?) → va_S A0 H0 H1 locs1 → W p l e R s m args below meth c H1 locs1 (cells + mc) (slots + ms) Q (F0 m (pc + 5) ls (va_rf r :: rest))) : W p l e R s m args below meth c H locs cells slots Q (F0 m pc ls st0) := by
  intro T hT X
  rcases hr T hT X with ⟨v, st₀, t, T', L, h0, X', hL, e1, e2, ⟨⟨r, u, hv, hp, hb⟩, hF⟩, st⟩ | ⟨q, st₀, t, T', L, E, ce, h0, X', hL, e1, e2, ⟨u, hp, hb, hF⟩, hce, hcv, hcl, st⟩
  · cases hv
    obtain ⟨k1, k2, k3⟩ := vx_keep h0 e1 hS hA hf hL hF
    obtain ⟨t2, a1, b1⟩ := kk r u t T'.heap (locs ++ L) e1.symm (by rw [← e2]; exact X'.warmed.alike) hp hb k1 k2 k3 T' rfl X'
    exact ⟨t2, st t2 a1, b1⟩
  · obtain ⟨k1, k2, k3⟩ := vx_keep h0 e1 hS hAX hf hL hF
    obtain ⟨t2, a1, b1⟩ := kx E ce q u t T'.heap (locs ++ L) e1.symm (by rw [← e2]; exact X'.warmed.alike) hp hb k1 k2 k3 (by rw [e1]; exact hce) hcv hcl T' rfl X'
    exact ⟨t2, st.trans a1, b1⟩
end
/-! ===== END ===== -/
/-! ===== BEGIN .. by an interface, a constant ===== -/
section
variable {p : Program} {l : Launch} {e : Env} {R : Room} {s : State} {m : MethodId} {args : Array Value} {below : List Frame} {meth : Method} {c : Code} {H : Heap} {locs : List Loc} {cells slots : Nat} {Q : State → Prop}
variable {mc ms : Nat} {free : Addr → Prop} {A0 A1 : Nat → Prop} {H0 : Heap} {a : Array Value} {pc : Nat} {ls : Array Slot} {st0 rest : List Value}
theorem vx_callFe {ad : Nat → Nat} {S SX : Type} {post : Option Nat → S → Prop} {px : SX → Prop} {B : S → State → Prop} {BX : String → SX → State → Prop} {AX : Nat → Prop} (hr : vx_Run5 p l e R s m args below meth c H locs cells slots mc ms (F0 m pc ls st0) rest (va_Qe ad post B A1 a) (vx_X px BX AX) free) (hS : va_S A0 H0 H locs) (hA : ∀ q, q < H.size → A1 q → A0 q) (hf : ∀ q, free q → A0 q) (hAX : ∀ q, q < H.size → AX q → A0 q)
    (kx : ∀ (E : String) (ce : Cell) (q9 : Addr) (u : SX) (t : State) (H1 : Heap) (locs1 : List Loc), t.heap = H1 → s.vm.Alike t.vm → px u → BX E u t → H.size ≤ H1.size → (∀ q : Nat, q < H.size → ¬ AX q → H1[q]? = H[q]?) → va_S A0 H0 H1 locs1 → H1[q9]? = some ce → ce.vm = .none → s.vm.findClass E = some ce.cls → vx_W p l e R s m args below meth c H1 locs1 (cells + mc) (slots + ms) Q (F0 m pc ls rest) q9)
    (kk : ∀ (r : Option Nat) (u : S) (t : State) (H1 : Heap) (locs1 : List Loc), t.heap = H1 → s.vm.Alike t.vm → post r u → B u t → H.size ≤ H1.size → (∀ q : Nat, q < H.size → ¬ A1 q → H1[q]? = H[q]?) → va_S A0 H0 H1 locs1 → W p l e R s m args below meth c H1 locs1 (cells + mc) (slots + ms) Q (F0 m (pc + 5) ls (va_re ad r :: rest))) : W p l e R s m args below meth c H locs cells slots Q (F0 m pc ls st0) := by
  intro T hT X
  rcases hr T hT X with ⟨v, st₀, t, T', L, h0, X', hL, e1, e2, ⟨⟨r, u, hv, hp, hb⟩, hF⟩, st⟩ | ⟨q, st₀, t, T', L, E, ce, h0, X', hL, e1, e2, ⟨u, hp, hb, hF⟩, hce, hcv, hcl, st⟩
  · cases hv
    obtain ⟨k1, k2, k3⟩ := vx_keep h0 e1 hS hA hf hL hF
    obtain ⟨t2, a1, b1⟩ := kk r u t T'.heap (locs ++ L) e1.symm (by rw [← e2]; exact X'.warmed.alike) hp hb k1 k2 k3 T' rfl X'
    exact ⟨t2, st t2 a1, b1⟩
  · obtain ⟨k1, k2, k3⟩ := vx_keep h0 e1 hS hAX hf hL hF
    obtain ⟨t2, a1, b1⟩ := kx E ce q u t T'.heap (locs ++ L) e1.symm (by rw [← e2]; exact X'.warmed.alike) hp hb k1 k2 k3 (by rw [e1]; exact hce) hcv hcl T' rfl X'
    exact ⟨t2, st.trans a1, b1⟩
end
/-! ===== END ===== -/
/-! ===== BEGIN what the machine throws by itself: null at a field, at athrow ===== -/
section VXM2
variable {p : Program} {l : Launch} {e : Env} {R : Room} {s : State} {m : MethodId} {args : Array Value} {below : List Frame} {meth : Method} {c : Code} {H : Heap} {locs : List Loc} {cells slots : Nat}
variable {Q : State → Prop} {cc : ByteArray} {pc : Nat} {ls : Array Slot} {rest : List Value}
theorem vx_getfN {D cl tys} {own ref C : String} {T : u_T} {N ci index : Nat} {Ts : List Cond} (hexec : p.tables.exec = Jvm.exec) (hb : c.code = cc) (hts : ∀ w ∈ Ts, w.before args s = true) (hin : ∀ w ∈ u_ws C T N, w ∈ Ts) (hown : s.vm.findClass own = some m.cls) (hK : va_K D cl tys s) (hc : cl[ci]? = some (C, T, N)) (k : Nat) (hk : k < N) (hlink : (Cond.fieldLink own index ref (T k).2.1 (T k).2.2.1).before args s = true) (hsame : ∀ x, s.fieldFound? (T k).1 (T k).2.1 (T k).2.2.1 = some x → s.fieldFound? ref (T k).2.1 (T k).2.2.1 = some x) (hdg : decode cc pc = .ok (.getfield index, 3)) (kk : vx_NoteN p l e R s m args below meth c H locs cells slots Q (F0 m pc ls rest)) : W p l e R s m args below meth c H locs cells slots Q (F0 m pc ls (.null :: rest)) := by
  obtain ⟨hS, hfc, kC, hkC, -⟩ := hK.1 ci _ hc
  obtain ⟨cf, kf, fi, f, hi, -⟩ := hS k hk
  intro U hU X
  obtain ⟨vm', X1, st1⟩ := X.getfieldNull hexec hown hlink (hsame _ hi) (u_facts hfc hkC (u_lays hts hin hk) hi).1 (g := F0 m pc ls (.null :: rest)) rfl (rest := rest) rfl (by rw [hb]; exact hdg)
  obtain ⟨t, st, q⟩ := kk (U.setVm vm') hU X1
  exact ⟨t, st1 t st, q⟩
theorem vx_getfNN {D cl tys} {own ref C host : String} {T : u_T} {N ci index : Nat} {Ts : List Cond} (hexec : p.tables.exec = Jvm.exec) (hb : c.code = cc) (hts : ∀ w ∈ Ts, w.before args s = true) (hin : ∀ w ∈ u_ws C T N, w ∈ Ts) (hown : s.vm.findClass own = some m.cls) (hK : va_K D cl tys s) (hc : cl[ci]? = some (C, T, N)) (k : Nat) (hk : k < N) (hlink : (Cond.fieldLinkNest own index ref (T k).2.1 (T k).2.2.1 host).before args s = true) (hsame : ∀ x, s.fieldFound? (T k).1 (T k).2.1 (T k).2.2.1 = some x → s.fieldFound? ref (T k).2.1 (T k).2.2.1 = some x) (hdg : decode cc pc = .ok (.getfield index, 3)) (kk : vx_NoteN p l e R s m args below meth c H locs cells slots Q (F0 m pc ls rest)) : W p l e R s m args below meth c H locs cells slots Q (F0 m pc ls (.null :: rest)) := by
  obtain ⟨hS, hfc, kC, hkC, -⟩ := hK.1 ci _ hc
  obtain ⟨cf, kf, fi, f, hi, -⟩ := hS k hk
  intro U hU X
  obtain ⟨vm', X1, st1⟩ := X.getfieldNullNest hexec hown hlink (hsame _ hi) (u_facts hfc hkC (u_lays hts hin hk) hi).1 (g := F0 m pc ls (.null :: rest)) rfl (rest := rest) rfl (by rw [hb]; exact hdg)
  obtain ⟨t, st, q⟩ := kk (U.setVm vm') hU X1
  exact ⟨t, st1 t st, q⟩
theorem vx_putfN {D cl tys} {own ref C : String} {T : u_T} {N ci index : Nat} {Ts : List Cond} (hexec : p.tables.exec = Jvm.exec) (hb : c.code = cc) (hts : ∀ w ∈ Ts, w.before args s = true) (hin : ∀ w ∈ u_ws C T N, w ∈ Ts) (hown : s.vm.findClass own = some m.cls) (hK : va_K D cl tys s) (hc : cl[ci]? = some (C, T, N)) (k : Nat) (hk : k < N) (hlink : (Cond.fieldLink own index ref (T k).2.1 (T k).2.2.1).before args s = true) (hsame : ∀ x, s.fieldFound? (T k).1 (T k).2.1 (T k).2.2.1 = some x → s.fieldFound? ref (T k).2.1 (T k).2.2.1 = some x) (hfin : (T k).2.2.2 = false) {v : Value} (hdg : decode cc pc = .ok (.putfield index, 3)) (kk : vx_NoteN p l e R s m args below meth c H locs cells slots Q (F0 m pc ls rest)) : W p l e R s m args below meth c H locs cells slots Q (F0 m pc ls (v :: .null :: rest)) := by
  obtain ⟨hS, hfc, kC, hkC, -⟩ := hK.1 ci _ hc
  obtain ⟨cf, kf, fi, f, hi, -⟩ := hS k hk
  have hlay := hts _ (hin _ (u_in_lay hk))
  unfold u_lay at hlay
  rw [if_neg (by rw [hfin]; decide)] at hlay
  obtain ⟨c9, k9, cf9, kf9, fi9, f9, -, -, hi9, hst9, hnf9, -⟩ := Cond.lays_spec hlay
  cases hi.symm.trans hi9
  intro U hU X
  obtain ⟨vm', X1, st1⟩ := X.putfieldNull hexec hown hlink (hsame _ hi) hst9 hnf9 (g := F0 m pc ls (v :: .null :: rest)) rfl (v := v) (rest := rest) rfl (by rw [hb]; exact hdg)
  obtain ⟨t, st, q⟩ := kk (U.setVm vm') hU X1
  exact ⟨t, st1 t st, q⟩
theorem vx_putfNN {D cl tys} {own ref C host : String} {T : u_T} {N ci index : Nat} {Ts : List Cond} (hexec : p.tables.exec = Jvm.exec) (hb : c.code = cc) (hts : ∀ w ∈ Ts, w.before args s = true) (hin : ∀ w ∈ u_ws C T N, w ∈ Ts) (hown : s.vm.findClass own = some m.cls) (hK : va_K D cl tys s) (hc : cl[ci]? = some (C, T, N)) (k : Nat) (hk : k < N) (hlink : (Cond.fieldLinkNest own index ref (T k).2.1 (T k).2.2.1 host).before args s = true) (hsame : ∀ x, s.fieldFound? (T k).1 (T k).2.1 (T k).2.2.1 = some x → s.fieldFound? ref (T k).2.1 (T k).2.2.1 = some x) (hfin : (T k).2.2.2 = false) {v : Value} (hdg : decode cc pc = .ok (.putfield index, 3)) (kk : vx_NoteN p l e R s m args below meth c H locs cells slots Q (F0 m pc ls rest)) : W p l e R s m args below meth c H locs cells slots Q (F0 m pc ls (v :: .null :: rest)) := by
  obtain ⟨hS, hfc, kC, hkC, -⟩ := hK.1 ci _ hc
  obtain ⟨cf, kf, fi, f, hi, -⟩ := hS k hk
  have hlay := hts _ (hin _ (u_in_lay hk))
  unfold u_lay at hlay
  rw [if_neg (by rw [hfin]; decide)] at hlay
  obtain ⟨c9, k9, cf9, kf9, fi9, f9, -, -, hi9, hst9, hnf9, -⟩ := Cond.lays_spec hlay
  cases hi.symm.trans hi9
  intro U hU X
  obtain ⟨vm', X1, st1⟩ := X.putfieldNullNest hexec hown hlink (hsame _ hi) hst9 hnf9 (g := F0 m pc ls (v :: .null :: rest)) rfl (v := v) (rest := rest) rfl (by rw [hb]; exact hdg)
  obtain ⟨t, st, q⟩ := kk (U.setVm vm') hU X1
  exact ⟨t, st1 t st, q⟩
theorem vx_athrowN (hexec : p.tables.exec = Jvm.exec) (hb : c.code = cc) (hdg : decode cc pc = .ok (.athrow, 1)) (k : vx_NoteN p l e R s m args below meth c H locs cells slots Q (F0 m pc ls rest)) : W p l e R s m args below meth c H locs cells slots Q (F0 m pc ls (.null :: rest)) := by
  intro T hT X
  obtain ⟨t, st, q⟩ := k T hT X
  exact ⟨t, X.athrowNull hexec (g := F0 m pc ls (.null :: rest)) rfl (rest := rest) rfl (by rw [hb]; exact hdg) t st, q⟩
end VXM2
/-! ===== END ===== -/
end
section
/-! ===== an evaluator of bytecode over abstract values: what needs neither heap nor tables ===== -/
/-- pc, locals, stack -/
abbrev zx_F : Type := Nat × List (Nat × Value) × List Value
def zx_lk (i : Nat) : List (Nat × Value) → Option Value
  | [] => none
  | (j, v) :: r => if j = i then some v else zx_lk i r
def zx_s1 (i : Nat) (v : Value) (lv : List (Nat × Value)) : List (Nat × Value) := (i, v) :: lv.filter (fun q => !(q.1 == i) && !(q.1 + 1 == i && q.2.category == 2))
def zx_s2 (i : Nat) (v : Value) (lv : List (Nat × Value)) : List (Nat × Value) := (i, v) :: lv.filter (fun q => !(q.1 == i) && (!(q.1 == i + 1) && !(q.1 + 1 == i && q.2.category == 2)))
def zx_j (pc : Nat) (off : Int) : Option Nat := if 0 ≤ (pc : Int) + off then some ((pc : Int) + off).toNat else none
theorem zx_j_ok {pc : Nat} {off : Int} {t : Nat} (h : zx_j pc off = some t) : (pc : Int) + off = (t : Int) := by
  unfold zx_j at h
  split at h
  · cases h; omega
  · cases h
/-- real values: an abstract place k stands for the address a k -/
def zx_v (a : Nat → Nat) : Value → Value
  | .ref k => .ref (a k)
  | v => v
abbrev zx_l (a : Nat → Nat) (lv : List (Nat × Value)) : List (Nat × Value) := lv.map (fun q => (q.1, zx_v a q.2))
abbrev zx_st (a : Nat → Nat) (st : List Value) : List Value := st.map (zx_v a)
theorem zx_cat (a : Nat → Nat) (v : Value) : (zx_v a v).category = v.category := by cases v <;> rfl
theorem zx_cats (a : Nat → Nat) (st : List Value) : ((zx_st a st).map fun v => v.category) = st.map fun v => v.category := by
  simp [zx_st, zx_cat]
theorem zx_s1_map (a : Nat → Nat) (i : Nat) (v : Value) (lv : List (Nat × Value)) : (i, zx_v a v) :: (zx_l a lv).filter (fun q => !(q.1 == i) && !(q.1 + 1 == i && q.2.category == 2)) = zx_l a (zx_s1 i v lv) := by
  simp [zx_s1, zx_l, List.filter_map, Function.comp_def, zx_cat]
theorem zx_s2_map (a : Nat → Nat) (i : Nat) (v : Value) (lv : List (Nat × Value)) : (i, zx_v a v) :: (zx_l a lv).filter (fun q => !(q.1 == i) && (!(q.1 == i + 1) && !(q.1 + 1 == i && q.2.category == 2))) = zx_l a (zx_s2 i v lv) := by
  simp [zx_s2, zx_l, List.filter_map, Function.comp_def, zx_cat]
theorem zx_lk_mem {i : Nat} {v : Value} : ∀ {lv : List (Nat × Value)}, zx_lk i lv = some v → (i, v) ∈ lv
  | [], h => by cases h
  | (j, w) :: r, h => by
    unfold zx_lk at h
    split at h
    · next e => cases h; subst e; exact List.mem_cons_self
    · exact List.mem_cons_of_mem _ (zx_lk_mem h)
theorem zx_lk_at {a : Nat → Nat} {ls : Array Slot} {nL i : Nat} {v : Value} {lv : List (Nat × Value)} (h : lv_has ls nL (zx_l a lv)) (hk : zx_lk i lv = some v) : ls[i]? = some (.val (zx_v a v)) := by
  have h1 := zx_lk_mem hk
  have h2 : (i, zx_v a v) ∈ zx_l a lv := List.mem_map.mpr ⟨(i, v), h1, rfl⟩
  exact h.2.2 _ h2
/-- a load of an int, long, float, double, reference or null -/
def zx_ld (ty : Nat) (i n : Nat) (pc : Nat) (lv : List (Nat × Value)) (st : List Value) : Option zx_F :=
  match zx_lk i lv with
  | some (.int x) => if ty = 0 then some (pc + n, lv, .int x :: st) else none
  | some (.long x) => if ty = 1 then some (pc + n, lv, .long x :: st) else none
  | some (.float x) => if ty = 2 then some (pc + n, lv, .float x :: st) else none
  | some (.double x) => if ty = 3 then some (pc + n, lv, .double x :: st) else none
  | some (.ref x) => if ty = 4 then some (pc + n, lv, .ref x :: st) else none
  | some .null => if ty = 4 then some (pc + n, lv, .null :: st) else none
  | _ => none
/-- a store -/
def zx_sv (ty : Nat) (nL i n : Nat) (pc : Nat) (lv : List (Nat × Value)) (st : List Value) : Option zx_F :=
  match st with
  | .int x :: r => if ty = 0 ∧ i < nL then some (pc + n, zx_s1 i (.int x) lv, r) else none
  | .long x :: r => if ty = 1 ∧ i + 1 < nL then some (pc + n, zx_s2 i (.long x) lv, r) else none
  | .float x :: r => if ty = 2 ∧ i < nL then some (pc + n, zx_s1 i (.float x) lv, r) else none
  | .double x :: r => if ty = 3 ∧ i + 1 < nL then some (pc + n, zx_s2 i (.double x) lv, r) else none
  | .ref x :: r => if ty = 4 ∧ i < nL then some (pc + n, zx_s1 i (.ref x) lv, r) else none
  | .null :: r => if ty = 4 ∧ i < nL then some (pc + n, zx_s1 i .null lv, r) else none
  | _ => none
def zx_br (b : Bool) (pc : Nat) (off : Int) (lv : List (Nat × Value)) (st : List Value) : Option zx_F :=
  match zx_j pc off with
  | some t => if b then some (t, lv, st) else some (pc + 3, lv, st)
  | none => none
/-- what an instruction does that touches locals and stack alone -/
def zx_p (nL : Nat) (pc : Nat) (lv : List (Nat × Value)) (st : List Value) : Instr → Nat → Option zx_F
  | .iconst n, 1 => some (pc + 1, lv, .int (Int32.ofInt n) :: st)
  | .bipush n, 2 => some (pc + 2, lv, .int (Int8.ofInt n).toInt32 :: st)
  | .sipush n, 3 => some (pc + 3, lv, .int (Int16.ofInt n).toInt32 :: st)
  | .lconst n, 1 => some (pc + 1, lv, .long (Int64.ofNat (n : Nat)) :: st)
  | .aconst_null, 1 => some (pc + 1, lv, .null :: st)
  | .fconst n, 1 => if (n : Nat) = 0 then some (pc + 1, lv, .float FP.fconst0 :: st) else none
  | .dconst n, 1 => if (n : Nat) = 0 then some (pc + 1, lv, .double FP.dconst0 :: st) else none
  | .iload_n k, 1 => zx_ld 0 k 1 pc lv st
  | .lload_n k, 1 => zx_ld 1 k 1 pc lv st
  | .fload_n k, 1 => zx_ld 2 k 1 pc lv st
  | .dload_n k, 1 => zx_ld 3 k 1 pc lv st
  | .aload_n k, 1 => zx_ld 4 k 1 pc lv st
  | .iload k, 2 => zx_ld 0 k 2 pc lv st
  | .lload k, 2 => zx_ld 1 k 2 pc lv st
  | .fload k, 2 => zx_ld 2 k 2 pc lv st
  | .dload k, 2 => zx_ld 3 k 2 pc lv st
  | .aload k, 2 => zx_ld 4 k 2 pc lv st
  | .istore_n k, 1 => zx_sv 0 nL k 1 pc lv st
  | .lstore_n k, 1 => zx_sv 1 nL k 1 pc lv st
  | .fstore_n k, 1 => zx_sv 2 nL k 1 pc lv st
  | .dstore_n k, 1 => zx_sv 3 nL k 1 pc lv st
  | .astore_n k, 1 => zx_sv 4 nL k 1 pc lv st
  | .istore k, 2 => zx_sv 0 nL k 2 pc lv st
  | .lstore k, 2 => zx_sv 1 nL k 2 pc lv st
  | .fstore k, 2 => zx_sv 2 nL k 2 pc lv st
  | .dstore k, 2 => zx_sv 3 nL k 2 pc lv st
  | .astore k, 2 => zx_sv 4 nL k 2 pc lv st
  | .iinc i n, 3 => match zx_lk i lv with
    | some (.int x) => if i < nL then some (pc + 3, zx_s1 i (.int (x + Int32.ofInt n)) lv, st) else none
    | _ => none
  | .goto off, 3 => (zx_j pc off).map fun t => (t, lv, st)
  | .ifCond cd off, 3 => match st with
    | .int x :: r => match cd with
      | .eq => zx_br (decide (x = 0)) pc off lv r
      | .ne => zx_br (decide (¬ x = 0)) pc off lv r
      | .lt => zx_br (decide (x < 0)) pc off lv r
      | .ge => zx_br (decide (0 ≤ x)) pc off lv r
      | .gt => zx_br (decide (0 < x)) pc off lv r
      | .le => zx_br (decide (x ≤ 0)) pc off lv r
    | _ => none
  | .if_icmp cd off, 3 => match st with
    | .int y :: .int x :: r => match cd with
      | .eq => zx_br (decide (x = y)) pc off lv r
      | .ne => zx_br (decide (¬ x = y)) pc off lv r
      | .lt => zx_br (decide (x < y)) pc off lv r
      | .ge => zx_br (decide (y ≤ x)) pc off lv r
      | .gt => zx_br (decide (y < x)) pc off lv r
      | .le => zx_br (decide (x ≤ y)) pc off lv r
    | _ => none
  | .ifnull off, 3 => match st with
    | .null :: r => zx_br true pc off lv r
    | .ref _ :: r => zx_br false pc off lv r
    | _ => none
  | .ifnonnull off, 3 => match st with
    | .null :: r => zx_br false pc off lv r
    | .ref _ :: r => zx_br true pc off lv r
    | _ => none
  | .iadd, 1 => match st with | .int y :: .int x :: r => some (pc + 1, lv, .int (x + y) :: r) | _ => none
  | .isub, 1 => match st with | .int y :: .int x :: r => some (pc + 1, lv, .int (x - y) :: r) | _ => none
  | .imul, 1 => match st with | .int y :: .int x :: r => some (pc + 1, lv, .int (x * y) :: r) | _ => none
  | .iand, 1 => match st with | .int y :: .int x :: r => some (pc + 1, lv, .int (x &&& y) :: r) | _ => none
  | .ior, 1 => match st with | .int y :: .int x :: r => some (pc + 1, lv, .int (x ||| y) :: r) | _ => none
  | .ixor, 1 => match st with | .int y :: .int x :: r => some (pc + 1, lv, .int (x ^^^ y) :: r) | _ => none
  | .ishl, 1 => match st with | .int y :: .int x :: r => some (pc + 1, lv, .int (x <<< (y &&& 31)) :: r) | _ => none
  | .ishr, 1 => match st with | .int y :: .int x :: r => some (pc + 1, lv, .int (x >>> (y &&& 31)) :: r) | _ => none
  | .iushr, 1 => match st with | .int y :: .int x :: r => some (pc + 1, lv, .int (x.toUInt32 >>> (y.toUInt32 &&& Int32.toUInt32 31)).toInt32 :: r) | _ => none
  | .idiv, 1 => match st with | .int y :: .int x :: r => if y = 0 then none else some (pc + 1, lv, .int (x / y) :: r) | _ => none
  | .irem, 1 => match st with | .int y :: .int x :: r => if y = 0 then none else some (pc + 1, lv, .int (x - x / y * y) :: r) | _ => none
  | .ineg, 1 => match st with | .int x :: r => some (pc + 1, lv, .int (-x) :: r) | _ => none
  | .ladd, 1 => match st with | .long y :: .long x :: r => some (pc + 1, lv, .long (x + y) :: r) | _ => none
  | .lsub, 1 => match st with | .long y :: .long x :: r => some (pc + 1, lv, .long (x - y) :: r) | _ => none
  | .lmul, 1 => match st with | .long y :: .long x :: r => some (pc + 1, lv, .long (x * y) :: r) | _ => none
  | .land, 1 => match st with | .long y :: .long x :: r => some (pc + 1, lv, .long (x &&& y) :: r) | _ => none
  | .lor, 1 => match st with | .long y :: .long x :: r => some (pc + 1, lv, .long (x ||| y) :: r) | _ => none
  | .lxor, 1 => match st with | .long y :: .long x :: r => some (pc + 1, lv, .long (x ^^^ y) :: r) | _ => none
  | .ldiv, 1 => match st with | .long y :: .long x :: r => if y = 0 then none else some (pc + 1, lv, .long (x / y) :: r) | _ => none
  | .lrem, 1 => match st with | .long y :: .long x :: r => if y = 0 then none else some (pc + 1, lv, .long (x - x / y * y) :: r) | _ => none
  | .lneg, 1 => match st with | .long x :: r => some (pc + 1, lv, .long (-x) :: r) | _ => none
  | .lshl, 1 => match st with | .int y :: .long x :: r => some (pc + 1, lv, .long (x <<< (y.toInt64 &&& 63)) :: r) | _ => none
  | .lshr, 1 => match st with | .int y :: .long x :: r => some (pc + 1, lv, .long (x >>> (y.toInt64 &&& 63)) :: r) | _ => none
  | .lushr, 1 => match st with | .int y :: .long x :: r => some (pc + 1, lv, .long (x.toUInt64 >>> (y.toInt64.toUInt64 &&& Int64.toUInt64 63)).toInt64 :: r) | _ => none
  | .lcmp, 1 => match st with | .long y :: .long x :: r => some (pc + 1, lv, .int (lg_cmp x y) :: r) | _ => none
  | .i2l, 1 => match st with | .int x :: r => some (pc + 1, lv, .long x.toInt64 :: r) | _ => none
  | .l2i, 1 => match st with | .long x :: r => some (pc + 1, lv, .int x.toInt32 :: r) | _ => none
  | .i2b, 1 => match st with | .int x :: r => some (pc + 1, lv, .int x.toInt8.toInt32 :: r) | _ => none
  | .i2s, 1 => match st with | .int x :: r => some (pc + 1, lv, .int x.toInt16.toInt32 :: r) | _ => none
  | .i2c, 1 => match st with | .int x :: r => some (pc + 1, lv, .int (x.toUInt32 % 65536).toInt32 :: r) | _ => none
  | .i2f, 1 => match st with | .int x :: r => some (pc + 1, lv, .float (FP.i2f x) :: r) | _ => none
  | .i2d, 1 => match st with | .int x :: r => some (pc + 1, lv, .double (FP.i2d x) :: r) | _ => none
  | .l2d, 1 => match st with | .long x :: r => some (pc + 1, lv, .double (FP.l2d x) :: r) | _ => none
  | .fdiv, 1 => match st with | .float y :: .float x :: r => if FP.fdiv x y &&& 0x7fffffff ≤ 0x7f800000 then some (pc + 1, lv, .float (FP.fdiv x y) :: r) else none | _ => none
  | .ddiv, 1 => match st with | .double y :: .double x :: r => if FP.ddiv x y &&& 0x7fffffffffffffff ≤ 0x7ff0000000000000 then some (pc + 1, lv, .double (FP.ddiv x y) :: r) else none | _ => none
  | .f2d, 1 => match st with | .float x :: r => if FP.f2d x &&& 0x7fffffffffffffff ≤ 0x7ff0000000000000 then some (pc + 1, lv, .double (FP.f2d x) :: r) else none | _ => none
  | .fcmp op, 1 => match st with | .float y :: .float x :: r => some (pc + 1, lv, .int (Op.cmpValue (FP.fcmp x y) op) :: r) | _ => none
  | .dcmp op, 1 => match st with | .double y :: .double x :: r => some (pc + 1, lv, .int (Op.cmpValue (FP.dcmp x y) op) :: r) | _ => none
  | .dup, 1 => match st with | x :: r => if x.category = 1 then some (pc + 1, lv, x :: x :: r) else none | _ => none
  | .pop, 1 => match st with | x :: r => if x.category = 1 then some (pc + 1, lv, r) else none | _ => none
  | .dup_x1, 1 => match st with | x :: y :: r => if x.category = 1 ∧ y.category = 1 then some (pc + 1, lv, x :: y :: x :: r) else none | _ => none
  | .dup2, 1 => match st with
    | x :: y :: r => if x.category = 1 ∧ y.category = 1 then some (pc + 1, lv, x :: y :: x :: y :: r) else none
    | _ => none
  | .tableswitch dflt lo hi offs, _ => match st with
    | .int x :: r => if x.toInt < lo ∨ hi < x.toInt then (zx_j pc dflt).map fun t => (t, lv, r) else
      match offs[(x.toInt - lo).toNat]? with
      | some off => (zx_j pc off).map fun t => (t, lv, r)
      | none => none
    | _ => none
  | .lookupswitch dflt ps, _ => match st with
    | .int x :: r => if (ps.toList.zip (ps.toList.drop 1)).all (fun (a, next) => a.1 < next.1) then (zx_j pc (Op.lookupswitch.offset ps.toList dflt x.toInt)).map fun t => (t, lv, r) else none
    | _ => none
  | _, _ => none
end
section
/-! ===== each of them is the kit's row ===== -/
section ZXP
variable {p : Program} {l : Launch} {e : Env} {R : Room} {s : State} {m : MethodId} {args : Array Value} {below : List Frame} {meth : Method} {c : Code} {H : Heap} {locs : List Loc} {cells slots : Nat} {Q : State → Prop} {cc : ByteArray} {pc nL : Nat} {ls : Array Slot} {lv : List (Nat × Value)} {st : List Value} {a : Nat → Nat}
/-- the goal goes on at f -/
def zx_K (p : Program) (l : Launch) (e : Env) (R : Room) (s : State) (m : MethodId) (args : Array Value) (below : List Frame) (meth : Method) (c : Code) (H : Heap) (locs : List Loc) (cells slots : Nat) (Q : State → Prop) (nL : Nat) (a : Nat → Nat) (f : zx_F) : Prop :=
  ∀ ls' : Array Slot, lv_has ls' nL (zx_l a f.2.1) → W p l e R s m args below meth c H locs cells slots Q (F0 m f.1 ls' (zx_st a f.2.2))
theorem zx_ldin (hx : p.tables.exec = Jvm.exec) (hb : c.code = cc) {k : Fin 4} {f : zx_F} (hd : decode cc pc = .ok (.iload_n k, 1)) (hl : lv_has ls nL (zx_l a lv)) (h : zx_ld 0 k 1 pc lv st = some f) (hk : zx_K p l e R s m args below meth c H locs cells slots Q nL a f) : W p l e R s m args below meth c H locs cells slots Q (F0 m pc ls (zx_st a st)) := by
  unfold zx_ld at h
  split at h
  · next x e =>
    simp at h
    subst h
    exact lv_iload_n hx hb hd rfl (zx_lk_at hl e) (hk ls hl)
  · simp at h
  · simp at h
  · simp at h
  · simp at h
  · simp at h
  · cases h
theorem zx_ldiw (hx : p.tables.exec = Jvm.exec) (hb : c.code = cc) {k : Nat} {f : zx_F} (hd : decode cc pc = .ok (.iload k, 2)) (hl : lv_has ls nL (zx_l a lv)) (h : zx_ld 0 k 2 pc lv st = some f) (hk : zx_K p l e R s m args below meth c H locs cells slots Q nL a f) : W p l e R s m args below meth c H locs cells slots Q (F0 m pc ls (zx_st a st)) := by
  unfold zx_ld at h
  split at h
  · next x e =>
    simp at h
    subst h
    exact lv_iload hx hb hd (zx_lk_at hl e) (hk ls hl)
  · simp at h
  · simp at h
  · simp at h
  · simp at h
  · simp at h
  · cases h
theorem zx_ldln (hx : p.tables.exec = Jvm.exec) (hb : c.code = cc) {k : Fin 4} {f : zx_F} (hd : decode cc pc = .ok (.lload_n k, 1)) (hl : lv_has ls nL (zx_l a lv)) (h : zx_ld 1 k 1 pc lv st = some f) (hk : zx_K p l e R s m args below meth c H locs cells slots Q nL a f) : W p l e R s m args below meth c H locs cells slots Q (F0 m pc ls (zx_st a st)) := by
  unfold zx_ld at h
  split at h
  · simp at h
  · next x e =>
    simp at h
    subst h
    exact lv_lload_n hx hb hd rfl (zx_lk_at hl e) (hk ls hl)
  · simp at h
  · simp at h
  · simp at h
  · simp at h
  · cases h
theorem zx_ldlw (hx : p.tables.exec = Jvm.exec) (hb : c.code = cc) {k : Nat} {f : zx_F} (hd : decode cc pc = .ok (.lload k, 2)) (hl : lv_has ls nL (zx_l a lv)) (h : zx_ld 1 k 2 pc lv st = some f) (hk : zx_K p l e R s m args below meth c H locs cells slots Q nL a f) : W p l e R s m args below meth c H locs cells slots Q (F0 m pc ls (zx_st a st)) := by
  unfold zx_ld at h
  split at h
  · simp at h
  · next x e =>
    simp at h
    subst h
    exact lv_lload hx hb hd (zx_lk_at hl e) (hk ls hl)
  · simp at h
  · simp at h
  · simp at h
  · simp at h
  · cases h
theorem zx_ldfn (hx : p.tables.exec = Jvm.exec) (hb : c.code = cc) {k : Fin 4} {f : zx_F} (hd : decode cc pc = .ok (.fload_n k, 1)) (hl : lv_has ls nL (zx_l a lv)) (h : zx_ld 2 k 1 pc lv st = some f) (hk : zx_K p l e R s m args below meth c H locs cells slots Q nL a f) : W p l e R s m args below meth c H locs cells slots Q (F0 m pc ls (zx_st a st)) := by
  unfold zx_ld at h
  split at h
  · simp at h
  · simp at h
  · next x e =>
    simp at h
    subst h
    exact lv_fload_n hx hb hd rfl (zx_lk_at hl e) (hk ls hl)
  · simp at h
  · simp at h
  · simp at h
  · cases h
theorem zx_ldfw (hx : p.tables.exec = Jvm.exec) (hb : c.code = cc) {k : Nat} {f : zx_F} (hd : decode cc pc = .ok (.fload k, 2)) (hl : lv_has ls nL (zx_l a lv)) (h : zx_ld 2 k 2 pc lv st = some f) (hk : zx_K p l e R s m args below meth c H locs cells slots Q nL a f) : W p l e R s m args below meth c H locs cells slots Q (F0 m pc ls (zx_st a st)) := by
  unfold zx_ld at h
  split at h
  · simp at h
  · simp at h
  · next x e =>
    simp at h
    subst h
    exact lv_fload hx hb hd (zx_lk_at hl e) (hk ls hl)
  · simp at h
  · simp at h
  · simp at h
  · cases h
theorem zx_lddn (hx : p.tables.exec = Jvm.exec) (hb : c.code = cc) {k : Fin 4} {f : zx_F} (hd : decode cc pc = .ok (.dload_n k, 1)) (hl : lv_has ls nL (zx_l a lv)) (h : zx_ld 3 k 1 pc lv st = some f) (hk : zx_K p l e R s m args below meth c H locs cells slots Q nL a f) : W p l e R s m args below meth c H locs cells slots Q (F0 m pc ls (zx_st a st)) := by
  unfold zx_ld at h
  split at h
  · simp at h
  · simp at h
  · simp at h
  · next x e =>
    simp at h
    subst h
    exact lv_dload_n hx hb hd rfl (zx_lk_at hl e) (hk ls hl)
  · simp at h
  · simp at h
  · cases h
theorem zx_lddw (hx : p.tables.exec = Jvm.exec) (hb : c.code = cc) {k : Nat} {f : zx_F} (hd : decode cc pc = .ok (.dload k, 2)) (hl : lv_has ls nL (zx_l a lv)) (h : zx_ld 3 k 2 pc lv st = some f) (hk : zx_K p l e R s m args below meth c H locs cells slots Q nL a f) : W p l e R s m args below meth c H locs cells slots Q (F0 m pc ls (zx_st a st)) := by
  unfold zx_ld at h
  split at h
  · simp at h
  · simp at h
  · simp at h
  · next x e =>
    simp at h
    subst h
    exact lv_dload hx hb hd (zx_lk_at hl e) (hk ls hl)
  · simp at h
  · simp at h
  · cases h
theorem zx_ldan (hx : p.tables.exec = Jvm.exec) (hb : c.code = cc) {k : Fin 4} {f : zx_F} (hd : decode cc pc = .ok (.aload_n k, 1)) (hl : lv_has ls nL (zx_l a lv)) (h : zx_ld 4 k 1 pc lv st = some f) (hk : zx_K p l e R s m args below meth c H locs cells slots Q nL a f) : W p l e R s m args below meth c H locs cells slots Q (F0 m pc ls (zx_st a st)) := by
  unfold zx_ld at h
  split at h
  · simp at h
  · simp at h
  · simp at h
  · simp at h
  · next x e =>
    simp at h
    subst h
    exact lv_aload_n hx hb hd rfl (zx_lk_at hl e) (hk ls hl)
  · next e =>
    simp at h
    subst h
    exact lv_aload_nN hx hb hd rfl (zx_lk_at hl e) (hk ls hl)
  · cases h
theorem zx_ldaw (hx : p.tables.exec = Jvm.exec) (hb : c.code = cc) {k : Nat} {f : zx_F} (hd : decode cc pc = .ok (.aload k, 2)) (hl : lv_has ls nL (zx_l a lv)) (h : zx_ld 4 k 2 pc lv st = some f) (hk : zx_K p l e R s m args below meth c H locs cells slots Q nL a f) : W p l e R s m args below meth c H locs cells slots Q (F0 m pc ls (zx_st a st)) := by
  unfold zx_ld at h
  split at h
  · simp at h
  · simp at h
  · simp at h
  · simp at h
  · next x e =>
    simp at h
    subst h
    exact lv_aload hx hb hd (zx_lk_at hl e) (hk ls hl)
  · next e =>
    simp at h
    subst h
    exact lv_aloadN hx hb hd (zx_lk_at hl e) (hk ls hl)
  · cases h
theorem zx_svin (hx : p.tables.exec = Jvm.exec) (hb : c.code = cc) {k : Fin 4} {f : zx_F} (hd : decode cc pc = .ok (.istore_n k, 1)) (hl : lv_has ls nL (zx_l a lv)) (h : zx_sv 0 nL k 1 pc lv st = some f) (hk : zx_K p l e R s m args below meth c H locs cells slots Q nL a f) : W p l e R s m args below meth c H locs cells slots Q (F0 m pc ls (zx_st a st)) := by
  unfold zx_sv at h
  split at h
  · next x r =>
    split at h
    · next hi =>
      cases h
      exact lv_istore_n hx hb hd rfl hl hi.2 (zx_s1_map a _ (.int x) lv) (fun ls' h' => hk ls' h')
    · cases h
  · simp at h
  · simp at h
  · simp at h
  · simp at h
  · simp at h
  · cases h
theorem zx_sviw (hx : p.tables.exec = Jvm.exec) (hb : c.code = cc) {k : Nat} {f : zx_F} (hd : decode cc pc = .ok (.istore k, 2)) (hl : lv_has ls nL (zx_l a lv)) (h : zx_sv 0 nL k 2 pc lv st = some f) (hk : zx_K p l e R s m args below meth c H locs cells slots Q nL a f) : W p l e R s m args below meth c H locs cells slots Q (F0 m pc ls (zx_st a st)) := by
  unfold zx_sv at h
  split at h
  · next x r =>
    split at h
    · next hi =>
      cases h
      exact lv_istore hx hb hd hl hi.2 (zx_s1_map a _ (.int x) lv) (fun ls' h' => hk ls' h')
    · cases h
  · simp at h
  · simp at h
  · simp at h
  · simp at h
  · simp at h
  · cases h
theorem zx_svln (hx : p.tables.exec = Jvm.exec) (hb : c.code = cc) {k : Fin 4} {f : zx_F} (hd : decode cc pc = .ok (.lstore_n k, 1)) (hl : lv_has ls nL (zx_l a lv)) (h : zx_sv 1 nL k 1 pc lv st = some f) (hk : zx_K p l e R s m args below meth c H locs cells slots Q nL a f) : W p l e R s m args below meth c H locs cells slots Q (F0 m pc ls (zx_st a st)) := by
  unfold zx_sv at h
  split at h
  · simp at h
  · next x r =>
    split at h
    · next hi =>
      cases h
      exact lv_lstore_n hx hb hd rfl hl hi.2 (zx_s2_map a _ (.long x) lv) (fun ls' h' => hk ls' h')
    · cases h
  · simp at h
  · simp at h
  · simp at h
  · simp at h
  · cases h
theorem zx_svlw (hx : p.tables.exec = Jvm.exec) (hb : c.code = cc) {k : Nat} {f : zx_F} (hd : decode cc pc = .ok (.lstore k, 2)) (hl : lv_has ls nL (zx_l a lv)) (h : zx_sv 1 nL k 2 pc lv st = some f) (hk : zx_K p l e R s m args below meth c H locs cells slots Q nL a f) : W p l e R s m args below meth c H locs cells slots Q (F0 m pc ls (zx_st a st)) := by
  unfold zx_sv at h
  split at h
  · simp at h
  · next x r =>
    split at h
    · next hi =>
      cases h
      exact lv_lstore hx hb hd hl hi.2 (zx_s2_map a _ (.long x) lv) (fun ls' h' => hk ls' h')
    · cases h
  · simp at h
  · simp at h
  · simp at h
  · simp at h
  · cases h
theorem zx_svfn (hx : p.tables.exec = Jvm.exec) (hb : c.code = cc) {k : Fin 4} {f : zx_F} (hd : decode cc pc = .ok (.fstore_n k, 1)) (hl : lv_has ls nL (zx_l a lv)) (h : zx_sv 2 nL k 1 pc lv st = some f) (hk : zx_K p l e R s m args below meth c H locs cells slots Q nL a f) : W p l e R s m args below meth c H locs cells slots Q (F0 m pc ls (zx_st a st)) := by
  unfold zx_sv at h
  split at h
  · simp at h
  · simp at h
  · next x r =>
    split at h
    · next hi =>
      cases h
      exact lv_fstore_n hx hb hd rfl hl hi.2 (zx_s1_map a _ (.float x) lv) (fun ls' h' => hk ls' h')
    · cases h
  · simp at h
  · simp at h
  · simp at h
  · cases h
theorem zx_svfw (hx : p.tables.exec = Jvm.exec) (hb : c.code = cc) {k : Nat} {f : zx_F} (hd : decode cc pc = .ok (.fstore k, 2)) (hl : lv_has ls nL (zx_l a lv)) (h : zx_sv 2 nL k 2 pc lv st = some f) (hk : zx_K p l e R s m args below meth c H locs cells slots Q nL a f) : W p l e R s m args below meth c H locs cells slots Q (F0 m pc ls (zx_st a st)) := by
  unfold zx_sv at h
  split at h
  · simp at h
  · simp at h
  · next x r =>
    split at h
    · next hi =>
      cases h
      exact lv_fstore hx hb hd hl hi.2 (zx_s1_map a _ (.float x) lv) (fun ls' h' => hk ls' h')
    · cases h
  · simp at h
  · simp at h
  · simp at h
  · cases h
theorem zx_svdn (hx : p.tables.exec = Jvm.exec) (hb : c.code = cc) {k : Fin 4} {f : zx_F} (hd : decode cc pc = .ok (.dstore_n k, 1)) (hl : lv_has ls nL (zx_l a lv)) (h : zx_sv 3 nL k 1 pc lv st = some f) (hk : zx_K p l e R s m args below meth c H locs cells slots Q nL a f) : W p l e R s m args below meth c H locs cells slots Q (F0 m pc ls (zx_st a st)) := by
  unfold zx_sv at h
  split at h
  · simp at h
  · simp at h
  · simp at h
  · next x r =>
    split at h
    · next hi =>
      cases h
      exact lv_dstore_n hx hb hd rfl hl hi.2 (zx_s2_map a _ (.double x) lv) (fun ls' h' => hk ls' h')
    · cases h
  · simp at h
  · simp at h
  · cases h
theorem zx_svdw (hx : p.tables.exec = Jvm.exec) (hb : c.code = cc) {k : Nat} {f : zx_F} (hd : decode cc pc = .ok (.dstore k, 2)) (hl : lv_has ls nL (zx_l a lv)) (h : zx_sv 3 nL k 2 pc lv st = some f) (hk : zx_K p l e R s m args below meth c H locs cells slots Q nL a f) : W p l e R s m args below meth c H locs cells slots Q (F0 m pc ls (zx_st a st)) := by
  unfold zx_sv at h
  split at h
  · simp at h
  · simp at h
  · simp at h
  · next x r =>
    split at h
    · next hi =>
      cases h
      exact lv_dstore hx hb hd hl hi.2 (zx_s2_map a _ (.double x) lv) (fun ls' h' => hk ls' h')
    · cases h
  · simp at h
  · simp at h
  · cases h
theorem zx_svan (hx : p.tables.exec = Jvm.exec) (hb : c.code = cc) {k : Fin 4} {f : zx_F} (hd : decode cc pc = .ok (.astore_n k, 1)) (hl : lv_has ls nL (zx_l a lv)) (h : zx_sv 4 nL k 1 pc lv st = some f) (hk : zx_K p l e R s m args below meth c H locs cells slots Q nL a f) : W p l e R s m args below meth c H locs cells slots Q (F0 m pc ls (zx_st a st)) := by
  unfold zx_sv at h
  split at h
  · simp at h
  · simp at h
  · simp at h
  · simp at h
  · next x r =>
    split at h
    · next hi =>
      cases h
      exact lv_astore_n hx hb hd rfl hl hi.2 (zx_s1_map a _ (.ref x) lv) (fun ls' h' => hk ls' h')
    · cases h
  · next r =>
    split at h
    · next hi =>
      cases h
      exact lv_astore_nN hx hb hd rfl hl hi.2 (zx_s1_map a _ .null lv) (fun ls' h' => hk ls' h')
    · cases h
  · cases h
theorem zx_svaw (hx : p.tables.exec = Jvm.exec) (hb : c.code = cc) {k : Nat} {f : zx_F} (hd : decode cc pc = .ok (.astore k, 2)) (hl : lv_has ls nL (zx_l a lv)) (h : zx_sv 4 nL k 2 pc lv st = some f) (hk : zx_K p l e R s m args below meth c H locs cells slots Q nL a f) : W p l e R s m args below meth c H locs cells slots Q (F0 m pc ls (zx_st a st)) := by
  unfold zx_sv at h
  split at h
  · simp at h
  · simp at h
  · simp at h
  · simp at h
  · next x r =>
    split at h
    · next hi =>
      cases h
      exact lv_astore hx hb hd hl hi.2 (zx_s1_map a _ (.ref x) lv) (fun ls' h' => hk ls' h')
    · cases h
  · next r =>
    split at h
    · next hi =>
      cases h
      exact lv_astoreN hx hb hd hl hi.2 (zx_s1_map a _ .null lv) (fun ls' h' => hk ls' h')
    · cases h
  · cases h
theorem zx_br_get {b : Bool} {off : Int} {f : zx_F} (h : zx_br b pc off lv st = some f) : ∃ t : Nat, (pc : Int) + off = (t : Int) ∧ f = if b then (t, lv, st) else (pc + 3, lv, st) := by
  unfold zx_br at h
  split at h
  · next t ht =>
    refine ⟨t, zx_j_ok ht, ?_⟩
    cases b <;> simp at h ⊢ <;> exact h.symm
  · cases h
theorem zx_if_eq (hx : p.tables.exec = Jvm.exec) (hb : c.code = cc) {x : Int32} {off : Int} {f : zx_F} (hd : decode cc pc = .ok (.ifCond .eq off, 3)) (hl : lv_has ls nL (zx_l a lv)) (h : zx_br (decide (x = 0)) pc off lv st = some f) (hk : zx_K p l e R s m args below meth c H locs cells slots Q nL a f) : W p l e R s m args below meth c H locs cells slots Q (F0 m pc ls (.int x :: zx_st a st)) := by
  obtain ⟨t, ht, rfl⟩ := zx_br_get h
  refine lv_if_eq hx hb hd ht (fun hc => ?_) (fun hc => ?_)
  · have h1 := hk ls
    simp only [hc, decide_true, decide_false, if_true, if_false, not_true, not_false_eq_true, Bool.false_eq_true] at h1
    exact h1 hl
  · have h1 := hk ls
    simp only [hc, decide_true, decide_false, if_true, if_false, not_true, not_false_eq_true, Bool.false_eq_true] at h1
    exact h1 hl
theorem zx_if_ne (hx : p.tables.exec = Jvm.exec) (hb : c.code = cc) {x : Int32} {off : Int} {f : zx_F} (hd : decode cc pc = .ok (.ifCond .ne off, 3)) (hl : lv_has ls nL (zx_l a lv)) (h : zx_br (decide (¬ x = 0)) pc off lv st = some f) (hk : zx_K p l e R s m args below meth c H locs cells slots Q nL a f) : W p l e R s m args below meth c H locs cells slots Q (F0 m pc ls (.int x :: zx_st a st)) := by
  obtain ⟨t, ht, rfl⟩ := zx_br_get h
  refine lv_if_ne hx hb hd ht (fun hc => ?_) (fun hc => ?_)
  · have h1 := hk ls
    simp only [hc, decide_true, decide_false, if_true, if_false, not_true, not_false_eq_true, Bool.false_eq_true] at h1
    exact h1 hl
  · have h1 := hk ls
    simp only [hc, decide_true, decide_false, if_true, if_false, not_true, not_false_eq_true, Bool.false_eq_true] at h1
    exact h1 hl
theorem zx_if_lt (hx : p.tables.exec = Jvm.exec) (hb : c.code = cc) {x : Int32} {off : Int} {f : zx_F} (hd : decode cc pc = .ok (.ifCond .lt off, 3)) (hl : lv_has ls nL (zx_l a lv)) (h : zx_br (decide (x < 0)) pc off lv st = some f) (hk : zx_K p l e R s m args below meth c H locs cells slots Q nL a f) : W p l e R s m args below meth c H locs cells slots Q (F0 m pc ls (.int x :: zx_st a st)) := by
  obtain ⟨t, ht, rfl⟩ := zx_br_get h
  refine lv_if_lt hx hb hd ht (fun hc => ?_) (fun hc => ?_)
  · have h1 := hk ls
    simp only [hc, decide_true, decide_false, if_true, if_false, not_true, not_false_eq_true, Bool.false_eq_true] at h1
    exact h1 hl
  · have h1 := hk ls
    simp only [hc, decide_true, decide_false, if_true, if_false, not_true, not_false_eq_true, Bool.false_eq_true] at h1
    exact h1 hl
theorem zx_if_ge (hx : p.tables.exec = Jvm.exec) (hb : c.code = cc) {x : Int32} {off : Int} {f : zx_F} (hd : decode cc pc = .ok (.ifCond .ge off, 3)) (hl : lv_has ls nL (zx_l a lv)) (h : zx_br (decide (0 ≤ x)) pc off lv st = some f) (hk : zx_K p l e R s m args below meth c H locs cells slots Q nL a f) : W p l e R s m args below meth c H locs cells slots Q (F0 m pc ls (.int x :: zx_st a st)) := by
  obtain ⟨t, ht, rfl⟩ := zx_br_get h
  refine lv_if_ge hx hb hd ht (fun hc => ?_) (fun hc => ?_)
  · have h1 := hk ls
    simp only [hc, decide_true, decide_false, if_true, if_false, not_true, not_false_eq_true, Bool.false_eq_true] at h1
    exact h1 hl
  · have h1 := hk ls
    simp only [hc, decide_true, decide_false, if_true, if_false, not_true, not_false_eq_true, Bool.false_eq_true] at h1
    exact h1 hl
theorem zx_if_gt (hx : p.tables.exec = Jvm.exec) (hb : c.code = cc) {x : Int32} {off : Int} {f : zx_F} (hd : decode cc pc = .ok (.ifCond .gt off, 3)) (hl : lv_has ls nL (zx_l a lv)) (h : zx_br (decide (0 < x)) pc off lv st = some f) (hk : zx_K p l e R s m args below meth c H locs cells slots Q nL a f) : W p l e R s m args below meth c H locs cells slots Q (F0 m pc ls (.int x :: zx_st a st)) := by
  obtain ⟨t, ht, rfl⟩ := zx_br_get h
  refine lv_if_gt hx hb hd ht (fun hc => ?_) (fun hc => ?_)
  · have h1 := hk ls
    simp only [hc, decide_true, decide_false, if_true, if_false, not_true, not_false_eq_true, Bool.false_eq_true] at h1
    exact h1 hl
  · have h1 := hk ls
    simp only [hc, decide_true, decide_false, if_true, if_false, not_true, not_false_eq_true, Bool.false_eq_true] at h1
    exact h1 hl
theorem zx_if_le (hx : p.tables.exec = Jvm.exec) (hb : c.code = cc) {x : Int32} {off : Int} {f : zx_F} (hd : decode cc pc = .ok (.ifCond .le off, 3)) (hl : lv_has ls nL (zx_l a lv)) (h : zx_br (decide (x ≤ 0)) pc off lv st = some f) (hk : zx_K p l e R s m args below meth c H locs cells slots Q nL a f) : W p l e R s m args below meth c H locs cells slots Q (F0 m pc ls (.int x :: zx_st a st)) := by
  obtain ⟨t, ht, rfl⟩ := zx_br_get h
  refine lv_if_le hx hb hd ht (fun hc => ?_) (fun hc => ?_)
  · have h1 := hk ls
    simp only [hc, decide_true, decide_false, if_true, if_false, not_true, not_false_eq_true, Bool.false_eq_true] at h1
    exact h1 hl
  · have h1 := hk ls
    simp only [hc, decide_true, decide_false, if_true, if_false, not_true, not_false_eq_true, Bool.false_eq_true] at h1
    exact h1 hl
theorem zx_icmp_eq (hx : p.tables.exec = Jvm.exec) (hb : c.code = cc) {x y : Int32} {off : Int} {f : zx_F} (hd : decode cc pc = .ok (.if_icmp .eq off, 3)) (hl : lv_has ls nL (zx_l a lv)) (h : zx_br (decide (x = y)) pc off lv st = some f) (hk : zx_K p l e R s m args below meth c H locs cells slots Q nL a f) : W p l e R s m args below meth c H locs cells slots Q (F0 m pc ls (.int y :: .int x :: zx_st a st)) := by
  obtain ⟨t, ht, rfl⟩ := zx_br_get h
  refine lv_icmp_eq hx hb hd ht (fun hc => ?_) (fun hc => ?_)
  · have h1 := hk ls
    simp only [hc, decide_true, decide_false, if_true, if_false, not_true, not_false_eq_true, Bool.false_eq_true] at h1
    exact h1 hl
  · have h1 := hk ls
    simp only [hc, decide_true, decide_false, if_true, if_false, not_true, not_false_eq_true, Bool.false_eq_true] at h1
    exact h1 hl
theorem zx_icmp_ne (hx : p.tables.exec = Jvm.exec) (hb : c.code = cc) {x y : Int32} {off : Int} {f : zx_F} (hd : decode cc pc = .ok (.if_icmp .ne off, 3)) (hl : lv_has ls nL (zx_l a lv)) (h : zx_br (decide (¬ x = y)) pc off lv st = some f) (hk : zx_K p l e R s m args below meth c H locs cells slots Q nL a f) : W p l e R s m args below meth c H locs cells slots Q (F0 m pc ls (.int y :: .int x :: zx_st a st)) := by
  obtain ⟨t, ht, rfl⟩ := zx_br_get h
  refine lv_icmp_ne hx hb hd ht (fun hc => ?_) (fun hc => ?_)
  · have h1 := hk ls
    simp only [hc, decide_true, decide_false, if_true, if_false, not_true, not_false_eq_true, Bool.false_eq_true] at h1
    exact h1 hl
  · have h1 := hk ls
    simp only [hc, decide_true, decide_false, if_true, if_false, not_true, not_false_eq_true, Bool.false_eq_true] at h1
    exact h1 hl
theorem zx_icmp_lt (hx : p.tables.exec = Jvm.exec) (hb : c.code = cc) {x y : Int32} {off : Int} {f : zx_F} (hd : decode cc pc = .ok (.if_icmp .lt off, 3)) (hl : lv_has ls nL (zx_l a lv)) (h : zx_br (decide (x < y)) pc off lv st = some f) (hk : zx_K p l e R s m args below meth c H locs cells slots Q nL a f) : W p l e R s m args below meth c H locs cells slots Q (F0 m pc ls (.int y :: .int x :: zx_st a st)) := by
  obtain ⟨t, ht, rfl⟩ := zx_br_get h
  refine lv_icmp_lt hx hb hd ht (fun hc => ?_) (fun hc => ?_)
  · have h1 := hk ls
    simp only [hc, decide_true, decide_false, if_true, if_false, not_true, not_false_eq_true, Bool.false_eq_true] at h1
    exact h1 hl
  · have h1 := hk ls
    simp only [hc, decide_true, decide_false, if_true, if_false, not_true, not_false_eq_true, Bool.false_eq_true] at h1
    exact h1 hl
theorem zx_icmp_ge (hx : p.tables.exec = Jvm.exec) (hb : c.code = cc) {x y : Int32} {off : Int} {f : zx_F} (hd : decode cc pc = .ok (.if_icmp .ge off, 3)) (hl : lv_has ls nL (zx_l a lv)) (h : zx_br (decide (y ≤ x)) pc off lv st = some f) (hk : zx_K p l e R s m args below meth c H locs cells slots Q nL a f) : W p l e R s m args below meth c H locs cells slots Q (F0 m pc ls (.int y :: .int x :: zx_st a st)) := by
  obtain ⟨t, ht, rfl⟩ := zx_br_get h
  refine lv_icmp_ge hx hb hd ht (fun hc => ?_) (fun hc => ?_)
  · have h1 := hk ls
    simp only [hc, decide_true, decide_false, if_true, if_false, not_true, not_false_eq_true, Bool.false_eq_true] at h1
    exact h1 hl
  · have h1 := hk ls
    simp only [hc, decide_true, decide_false, if_true, if_false, not_true, not_false_eq_true, Bool.false_eq_true] at h1
    exact h1 hl
theorem zx_icmp_gt (hx : p.tables.exec = Jvm.exec) (hb : c.code = cc) {x y : Int32} {off : Int} {f : zx_F} (hd : decode cc pc = .ok (.if_icmp .gt off, 3)) (hl : lv_has ls nL (zx_l a lv)) (h : zx_br (decide (y < x)) pc off lv st = some f) (hk : zx_K p l e R s m args below meth c H locs cells slots Q nL a f) : W p l e R s m args below meth c H locs cells slots Q (F0 m pc ls (.int y :: .int x :: zx_st a st)) := by
  obtain ⟨t, ht, rfl⟩ := zx_br_get h
  refine lv_icmp_gt hx hb hd ht (fun hc => ?_) (fun hc => ?_)
  · have h1 := hk ls
    simp only [hc, decide_true, decide_false, if_true, if_false, not_true, not_false_eq_true, Bool.false_eq_true] at h1
    exact h1 hl
  · have h1 := hk ls
    simp only [hc, decide_true, decide_false, if_true, if_false, not_true, not_false_eq_true, Bool.false_eq_true] at h1
    exact h1 hl
theorem zx_icmp_le (hx : p.tables.exec = Jvm.exec) (hb : c.code = cc) {x y : Int32} {off : Int} {f : zx_F} (hd : decode cc pc = .ok (.if_icmp .le off, 3)) (hl : lv_has ls nL (zx_l a lv)) (h : zx_br (decide (x ≤ y)) pc off lv st = some f) (hk : zx_K p l e R s m args below meth c H locs cells slots Q nL a f) : W p l e R s m args below meth c H locs cells slots Q (F0 m pc ls (.int y :: .int x :: zx_st a st)) := by
  obtain ⟨t, ht, rfl⟩ := zx_br_get h
  refine lv_icmp_le hx hb hd ht (fun hc => ?_) (fun hc => ?_)
  · have h1 := hk ls
    simp only [hc, decide_true, decide_false, if_true, if_false, not_true, not_false_eq_true, Bool.false_eq_true] at h1
    exact h1 hl
  · have h1 := hk ls
    simp only [hc, decide_true, decide_false, if_true, if_false, not_true, not_false_eq_true, Bool.false_eq_true] at h1
    exact h1 hl
set_option maxHeartbeats 4000000 in
theorem zx_p_ok (hx : p.tables.exec = Jvm.exec) (hb : c.code = cc) {ins : Instr} {n : Nat} {f : zx_F} (hd : decode cc pc = .ok (ins, n)) (hl : lv_has ls nL (zx_l a lv)) (h : zx_p nL pc lv st ins n = some f) (hk : zx_K p l e R s m args below meth c H locs cells slots Q nL a f) : W p l e R s m args below meth c H locs cells slots Q (F0 m pc ls (zx_st a st)) := by
  unfold zx_p at h
  split at h
  · cases h; exact lv_iconst hx hb hd rfl (hk ls hl)
  · cases h; exact lv_bipush hx hb hd rfl (hk ls hl)
  · cases h; exact lv_sipush hx hb hd rfl (hk ls hl)
  · cases h; exact lv_lconst hx hb hd rfl (hk ls hl)
  · cases h; exact lv_null hx hb hd (hk ls hl)
  · next q =>
    split at h
    · next hq =>
      cases h
      have hq0 : q = 0 := Fin.ext hq
      subst hq0
      exact lv_fconst0 hx hb hd (hk ls hl)
    · cases h
  · next q =>
    split at h
    · next hq =>
      cases h
      have hq0 : q = 0 := Fin.ext hq
      subst hq0
      exact lv_dconst0 hx hb hd (hk ls hl)
    · cases h
  · exact zx_ldin hx hb hd hl h hk
  · exact zx_ldln hx hb hd hl h hk
  · exact zx_ldfn hx hb hd hl h hk
  · exact zx_lddn hx hb hd hl h hk
  · exact zx_ldan hx hb hd hl h hk
  · exact zx_ldiw hx hb hd hl h hk
  · exact zx_ldlw hx hb hd hl h hk
  · exact zx_ldfw hx hb hd hl h hk
  · exact zx_lddw hx hb hd hl h hk
  · exact zx_ldaw hx hb hd hl h hk
  · exact zx_svin hx hb hd hl h hk
  · exact zx_svln hx hb hd hl h hk
  · exact zx_svfn hx hb hd hl h hk
  · exact zx_svdn hx hb hd hl h hk
  · exact zx_svan hx hb hd hl h hk
  · exact zx_sviw hx hb hd hl h hk
  · exact zx_svlw hx hb hd hl h hk
  · exact zx_svfw hx hb hd hl h hk
  · exact zx_svdw hx hb hd hl h hk
  · exact zx_svaw hx hb hd hl h hk
  · next i q =>
    split at h
    · next x e =>
      split at h
      · next hi =>
        cases h
        obtain ⟨k9, hk9⟩ := List.mem_iff_getElem?.mp (show (i, Value.int x) ∈ zx_l a lv from List.mem_map.mpr ⟨(i, .int x), zx_lk_mem e, rfl⟩)
        exact lv_iinc hx hb hd hl hk9 rfl hi (zx_s1_map a i (.int (x + Int32.ofInt q)) lv) (fun ls' h' => hk ls' h')
      · cases h
    · cases h
  · simp only [Option.map_eq_some_iff] at h
    obtain ⟨t, ht, rfl⟩ := h
    exact lv_goto hx hb hd (zx_j_ok ht) (hk ls hl)
  · split at h
    · split at h
      · exact zx_if_eq hx hb hd hl h hk
      · exact zx_if_ne hx hb hd hl h hk
      · exact zx_if_lt hx hb hd hl h hk
      · exact zx_if_ge hx hb hd hl h hk
      · exact zx_if_gt hx hb hd hl h hk
      · exact zx_if_le hx hb hd hl h hk
    · cases h
  · split at h
    · split at h
      · exact zx_icmp_eq hx hb hd hl h hk
      · exact zx_icmp_ne hx hb hd hl h hk
      · exact zx_icmp_lt hx hb hd hl h hk
      · exact zx_icmp_ge hx hb hd hl h hk
      · exact zx_icmp_gt hx hb hd hl h hk
      · exact zx_icmp_le hx hb hd hl h hk
    · cases h
  · split at h
    · obtain ⟨t, ht, rfl⟩ := zx_br_get h
      exact lv_ifnullN hx hb hd ht (hk ls hl)
    · obtain ⟨t, ht, rfl⟩ := zx_br_get h
      exact lv_ifnull hx hb hd (hk ls hl)
    · cases h
  · split at h
    · obtain ⟨t, ht, rfl⟩ := zx_br_get h
      exact lv_ifnonnullN hx hb hd (hk ls hl)
    · obtain ⟨t, ht, rfl⟩ := zx_br_get h
      exact lv_ifnonnull hx hb hd ht (hk ls hl)
    · cases h
  · split at h
    · cases h; exact lv_iadd hx hb hd (hk ls hl)
    · cases h
  · split at h
    · cases h; exact lv_isub hx hb hd (hk ls hl)
    · cases h
  · split at h
    · cases h; exact lv_imul hx hb hd (hk ls hl)
    · cases h
  · split at h
    · cases h; exact lv_iand hx hb hd (hk ls hl)
    · cases h
  · split at h
    · cases h; exact lv_ior hx hb hd (hk ls hl)
    · cases h
  · split at h
    · cases h; exact lv_ixor hx hb hd (hk ls hl)
    · cases h
  · split at h
    · cases h; exact lv_ishl hx hb hd (hk ls hl)
    · cases h
  · split at h
    · cases h; exact lv_ishr hx hb hd (hk ls hl)
    · cases h
  · split at h
    · cases h; exact lv_iushr hx hb hd rfl (hk ls hl)
    · cases h
  · split at h
    · split at h
      · cases h
      · next hne => cases h; exact lv_idiv hx hb hd hne (hk ls hl)
    · cases h
  · split at h
    · split at h
      · cases h
      · next hne => cases h; exact lv_irem hx hb hd hne (hk ls hl)
    · cases h
  · split at h
    · cases h; exact lv_ineg hx hb hd (hk ls hl)
    · cases h
  · split at h
    · cases h; exact lv_ladd hx hb hd (hk ls hl)
    · cases h
  · split at h
    · cases h; exact lv_lsub hx hb hd (hk ls hl)
    · cases h
  · split at h
    · cases h; exact lv_lmul hx hb hd (hk ls hl)
    · cases h
  · split at h
    · cases h; exact lv_land hx hb hd (hk ls hl)
    · cases h
  · split at h
    · cases h; exact lv_lor hx hb hd (hk ls hl)
    · cases h
  · split at h
    · cases h; exact lv_lxor hx hb hd (hk ls hl)
    · cases h
  · split at h
    · split at h
      · cases h
      · next hne => cases h; exact lv_ldiv hx hb hd hne (hk ls hl)
    · cases h
  · split at h
    · split at h
      · cases h
      · next hne => cases h; exact lv_lrem hx hb hd hne (hk ls hl)
    · cases h
  · split at h
    · cases h; exact lv_lneg hx hb hd (hk ls hl)
    · cases h
  · split at h
    · cases h; exact lv_lshl hx hb hd rfl (hk ls hl)
    · cases h
  · split at h
    · cases h; exact lv_lshr hx hb hd rfl (hk ls hl)
    · cases h
  · split at h
    · cases h; exact lv_lushr hx hb hd rfl (hk ls hl)
    · cases h
  · split at h
    · cases h; exact W.lcmp hx hb hd (hk ls hl)
    · cases h
  · split at h
    · cases h; exact lv_i2l hx hb hd rfl (hk ls hl)
    · cases h
  · split at h
    · cases h; exact lv_l2i hx hb hd rfl (hk ls hl)
    · cases h
  · split at h
    · cases h; exact lv_i2b hx hb hd rfl (hk ls hl)
    · cases h
  · split at h
    · cases h; exact lv_i2s hx hb hd rfl (hk ls hl)
    · cases h
  · split at h
    · cases h; exact lv_i2c hx hb hd rfl (hk ls hl)
    · cases h
  · split at h
    · cases h; exact lv_i2f hx hb hd (hk ls hl)
    · cases h
  · split at h
    · cases h; exact lv_i2d hx hb hd (hk ls hl)
    · cases h
  · split at h
    · cases h; exact lv_l2d hx hb hd (hk ls hl)
    · cases h
  · split at h
    · split at h
      · next hne => cases h; exact lv_fdiv hx hb hd hne (hk ls hl)
      · cases h
    · cases h
  · split at h
    · split at h
      · next hne => cases h; exact lv_ddiv hx hb hd hne (hk ls hl)
      · cases h
    · cases h
  · split at h
    · split at h
      · next hne => cases h; exact lv_f2d hx hb hd hne (hk ls hl)
      · cases h
    · cases h
  · split at h
    · cases h; exact lv_fcmp hx hb hd (hk ls hl)
    · cases h
  · split at h
    · cases h; exact lv_dcmp hx hb hd (hk ls hl)
    · cases h
  · split at h
    · split at h
      · next hne => cases h; exact lv_dup hx hb hd (by rw [zx_cat]; exact hne) (hk ls hl)
      · cases h
    · cases h
  · split at h
    · split at h
      · next hne => cases h; exact lv_pop hx hb hd (by rw [zx_cat]; exact hne) (hk ls hl)
      · cases h
    · cases h
  · split at h
    · split at h
      · next hne => cases h; exact lv_dup_x1 hx hb hd (by rw [zx_cat]; exact hne.1) (by rw [zx_cat]; exact hne.2) (hk ls hl)
      · cases h
    · cases h
  · split at h
    · split at h
      · next hne => cases h; exact lv_dup2_11 hx hb hd (by rw [zx_cat]; exact hne.1) (by rw [zx_cat]; exact hne.2) (hk ls hl)
      · cases h
    · cases h
  · split at h
    · split at h
      · next ho =>
        simp only [Option.map_eq_some_iff] at h
        obtain ⟨t, ht, rfl⟩ := h
        exact lv_tableOut hx hb hd ho (zx_j_ok ht) (hk ls hl)
      · next ho =>
        split at h
        · next off hof =>
          simp only [Option.map_eq_some_iff] at h
          obtain ⟨t, ht, rfl⟩ := h
          exact lv_tableIn hx hb hd (fun q => ho (Or.inl q)) (fun q => ho (Or.inr q)) hof (zx_j_ok ht) (hk ls hl)
        · cases h
    · cases h
  · split at h
    · split at h
      · next ho =>
        simp only [Option.map_eq_some_iff] at h
        obtain ⟨t, ht, rfl⟩ := h
        exact lv_lookup hx hb hd ho rfl (zx_j_ok ht) (hk ls hl)
      · cases h
    · cases h
  · cases h
end ZXP
end
section
/-- the words in pieces, for the places below -/
def zt_ch (j : Nat) : List Cond := match j with
  | 0 => k2_sels lw_privs
  | 1 => tables_1_1
  | 2 => tables_1_2
  | 3 => tables_1_3
  | 4 => tables_1_4
  | 5 => tables_1_5
  | 6 => tables_1_6
  | 7 => tables_1_7
  | 8 => tables_1_8
  | 9 => tables_1_9
  | 10 => tables_1_10
  | _ => []
def zt_wd (i : Nat) : Option Cond := (zt_ch (i / 1000))[i % 1000]?
theorem zt_ch_in {j : Nat} {w : Cond} (h : w ∈ zt_ch j) : w ∈ lw_tbl := by
  unfold zt_ch at h
  unfold lw_tbl tables_1
  split at h
  · simp only [List.mem_append]; simp only [h, true_or, or_true]
  · simp only [List.mem_append]; simp only [h, true_or, or_true]
  · simp only [List.mem_append]; simp only [h, true_or, or_true]
  · simp only [List.mem_append]; simp only [h, true_or, or_true]
  · simp only [List.mem_append]; simp only [h, true_or, or_true]
  · simp only [List.mem_append]; simp only [h, true_or, or_true]
  · simp only [List.mem_append]; simp only [h, true_or, or_true]
  · simp only [List.mem_append]; simp only [h, true_or, or_true]
  · simp only [List.mem_append]; simp only [h, true_or, or_true]
  · simp only [List.mem_append]; simp only [h, true_or, or_true]
  · simp only [List.mem_append]; simp only [h, true_or, or_true]
  · cases h
/-! ===== the tables (written by wip/zx/gen_tables.py out of the claim) ===== -/
def zt_T_TJ0 : u_T := fun k => match k with
  | 0 => ("java/lang/String", "value", "[B", true)
  | 1 => ("java/lang/String", "coder", "B", true)
  | 2 => ("java/lang/String", "hash", "I", false)
  | _ => ("java/lang/String", "hashIsZero", "Z", false)
def zt_T_TJ4 : u_T := fun k => match k with
  | 0 => ("java/lang/AbstractStringBuilder", "value", "[B", false)
  | 1 => ("java/lang/AbstractStringBuilder", "coder", "B", false)
  | 2 => ("java/lang/AbstractStringBuilder", "maybeLatin1", "Z", false)
  | _ => ("java/lang/AbstractStringBuilder", "count", "I", false)
def zt_T_TJ6 : u_T := fun k => match k with
  | _ => ("java/lang/Integer", "value", "I", true)
def zt_T_TJ13 : u_T := fun k => match k with
  | _ => ("java/lang/Long", "value", "J", true)
def zt_T_TJx4a65c : u_T := fun k => match k with
  | 0 => ("java/util/AbstractList", "modCount", "I", false)
  | 1 => ("java/util/ArrayList", "elementData", "[Ljava/lang/Object;", false)
  | _ => ("java/util/ArrayList", "size", "I", false)
def zt_T_TX0 : u_T := fun k => match k with
  | 0 => ("ColumnVault$Checks", "copy", "LColumnVault$Sheet;", true)
  | 1 => ("ColumnVault$Checks", "parted", "LColumnVault$Groups;", true)
  | _ => ("ColumnVault$Checks", "upTo", "[J", true)
def zt_T_TX1 : u_T := fun k => match k with
  | 0 => ("ColumnVault$FilterReader", "tokens", "LColumnVault$Tokens;", true)
  | 1 => ("ColumnVault$FilterReader", "sheet", "LColumnVault$Sheet;", true)
  | 2 => ("ColumnVault$FilterReader", "keys", "[J", true)
  | 3 => ("ColumnVault$FilterReader", "many", "I", false)
  | 4 => ("ColumnVault$FilterReader", "at", "I", false)
  | 5 => ("ColumnVault$FilterReader", "faultKind", "I", false)
  | _ => ("ColumnVault$FilterReader", "faultPlace", "I", false)
def zt_T_TX2 : u_T := fun k => match k with
  | 0 => ("ColumnVault$FilterText", "bytes", "[I", true)
  | _ => ("ColumnVault$FilterText", "length", "I", false)
def zt_T_TX3 : u_T := fun k => match k with
  | 0 => ("ColumnVault$Groups", "then", "LColumnVault$Sheet;", true)
  | 1 => ("ColumnVault$Groups", "keys", "[J", true)
  | 2 => ("ColumnVault$Groups", "members", "[J", true)
  | 3 => ("ColumnVault$Groups", "column", "I", false)
  | _ => ("ColumnVault$Groups", "many", "I", false)
def zt_T_TX4 : u_T := fun k => match k with
  | 0 => ("ColumnVault$History", "sheets", "[LColumnVault$Sheet;", true)
  | _ => ("ColumnVault$History", "now", "I", false)
def zt_T_TX5 : u_T := fun k => match k with
  | 0 => ("ColumnVault$JoinWays", "left", "LColumnVault$Sheet;", true)
  | 1 => ("ColumnVault$JoinWays", "column", "I", true)
  | 2 => ("ColumnVault$JoinWays", "right", "LColumnVault$Sheet;", true)
  | _ => ("ColumnVault$JoinWays", "other", "I", true)
def zt_T_TX6 : u_T := fun k => match k with
  | 0 => ("ColumnVault$Node", "form", "I", true)
  | 1 => ("ColumnVault$Node", "holds", "J", false)
  | 2 => ("ColumnVault$Node", "firstTold", "LColumnVault$Node;", false)
  | 3 => ("ColumnVault$Node", "lastTold", "LColumnVault$Node;", false)
  | 4 => ("ColumnVault$Node", "nextTold", "LColumnVault$Node;", false)
  | 5 => ("ColumnVault$Node", "firstByCounts", "LColumnVault$Node;", false)
  | _ => ("ColumnVault$Node", "nextByCounts", "LColumnVault$Node;", false)
def zt_T_TX7 : u_T := fun k => match k with
  | 0 => ("ColumnVault$Pairs", "lefts", "[I", true)
  | 1 => ("ColumnVault$Pairs", "rights", "[I", true)
  | _ => ("ColumnVault$Pairs", "many", "I", false)
def zt_T_TX8 : u_T := fun k => match k with
  | 0 => ("ColumnVault$Sheet", "kinds", "[I", true)
  | 1 => ("ColumnVault$Sheet", "keys", "[J", true)
  | 2 => ("ColumnVault$Sheet", "order", "[I", true)
  | 3 => ("ColumnVault$Sheet", "columns", "I", false)
  | 4 => ("ColumnVault$Sheet", "rows", "I", false)
  | _ => ("ColumnVault$Sheet", "chosen", "J", false)
def zt_T_TX9 : u_T := fun k => match k with
  | 0 => ("ColumnVault$Tokens", "forms", "[I", true)
  | 1 => ("ColumnVault$Tokens", "places", "[I", true)
  | 2 => ("ColumnVault$Tokens", "values", "[J", true)
  | _ => ("ColumnVault$Tokens", "many", "I", false)
def zt_T_TX10 : u_T := fun k => match k with
  | 0 => ("ColumnVault", "history", "LColumnVault$History;", true)
  | 1 => ("ColumnVault", "text", "LColumnVault$FilterText;", true)
  | 2 => ("ColumnVault", "tokens", "LColumnVault$Tokens;", true)
  | 3 => ("ColumnVault", "pairs", "LColumnVault$Pairs;", true)
  | 4 => ("ColumnVault", "groups", "LColumnVault$Groups;", true)
  | _ => ("ColumnVault", "checks", "LColumnVault$Checks;", true)
def zt_T_TX11 : u_T := fun k => match k with
  | 0 => ("ColumnVaultModel$Node", "sort", "I", true)
  | 1 => ("ColumnVaultModel$Node", "parts", "Ljava/util/List;", true)
  | 2 => ("ColumnVaultModel$Node", "column", "I", false)
  | _ => ("ColumnVaultModel$Node", "values", "Ljava/util/List;", true)
def zt_T_TX12 : u_T := fun k => match k with
  | 0 => ("ColumnVaultModel$Table", "kinds", "Ljava/util/List;", true)
  | 1 => ("ColumnVaultModel$Table", "rows", "Ljava/util/List;", true)
  | 2 => ("ColumnVaultModel$Table", "order", "Ljava/util/List;", true)
  | _ => ("ColumnVaultModel$Table", "chosen", "Ljava/util/List;", true)
def zt_T_TX13 : u_T := fun k => match k with
  | 0 => ("ColumnVaultModel", "thrown", "I", false)
  | 1 => ("ColumnVaultModel", "tables", "[LColumnVaultModel$Table;", false)
  | 2 => ("ColumnVaultModel", "versions", "Ljava/util/List;", true)
  | 3 => ("ColumnVaultModel", "version", "I", false)
  | 4 => ("ColumnVaultModel", "text", "[I", true)
  | 5 => ("ColumnVaultModel", "textMany", "I", false)
  | 6 => ("ColumnVaultModel", "at", "I", false)
  | 7 => ("ColumnVaultModel", "begin", "I", false)
  | 8 => ("ColumnVaultModel", "open", "I", false)
  | 9 => ("ColumnVaultModel", "errorKind", "I", false)
  | 10 => ("ColumnVaultModel", "errorPlace", "I", false)
  | 11 => ("ColumnVaultModel", "asked", "LColumnVaultModel$Table;", false)
  | 12 => ("ColumnVaultModel", "pairs", "Ljava/util/List;", true)
  | 13 => ("ColumnVaultModel", "groupTable", "LColumnVaultModel$Table;", false)
  | 14 => ("ColumnVaultModel", "groupColumn", "I", false)
  | _ => ("ColumnVaultModel", "groups", "Ljava/util/List;", false)
def zt_cl : List vw_C := [("java/lang/String", zt_T_TJ0, 4), ("java/lang/StringBuilder", zt_T_TJ4, 4), ("java/lang/Integer", zt_T_TJ6, 1), ("java/lang/Long", zt_T_TJ13, 1), ("java/util/ArrayList", zt_T_TJx4a65c, 3), ("ColumnVault$Checks", zt_T_TX0, 3), ("ColumnVault$FilterReader", zt_T_TX1, 7), ("ColumnVault$FilterText", zt_T_TX2, 2), ("ColumnVault$Groups", zt_T_TX3, 5), ("ColumnVault$History", zt_T_TX4, 2), ("ColumnVault$JoinWays", zt_T_TX5, 4), ("ColumnVault$Node", zt_T_TX6, 7), ("ColumnVault$Pairs", zt_T_TX7, 3), ("ColumnVault$Sheet", zt_T_TX8, 6), ("ColumnVault$Tokens", zt_T_TX9, 4), ("ColumnVault", zt_T_TX10, 6), ("ColumnVaultModel$Node", zt_T_TX11, 4), ("ColumnVaultModel$Table", zt_T_TX12, 4), ("ColumnVaultModel", zt_T_TX13, 16), ("java/lang/IndexOutOfBoundsException", fun _ => ("", "", "", false), 0), ("java/lang/IllegalArgumentException", fun _ => ("", "", "", false), 0), ("java/lang/IllegalStateException", fun _ => ("", "", "", false), 0), ("java/util/NoSuchElementException", fun _ => ("", "", "", false), 0)]
/-- the first exception class -/
def zt_x0 : Nat := 19
def zt_sz : List Nat := [4, 4, 1, 1, 3, 3, 7, 2, 5, 2, 4, 7, 3, 6, 4, 6, 4, 4, 16, 6, 6, 6, 6]
def zt_lay : List (List Nat) := [[10049, 10051, 10053, 10055], [9111, 9113, 9115, 9117], [7112], [8177], [6132, 6128, 6130], [1196, 1198, 1200], [3136, 3138, 3140, 3142, 3144, 3146, 3148], [1114, 1116], [1172, 1174, 1176, 1178, 1180], [1099, 1101], [5023, 5025, 5027, 5029], [3218, 3220, 3222, 3224, 3226, 3228, 3230], [1148, 1150, 1152], [1081, 1083, 1085, 1087, 1089, 1091], [1129, 1131, 1133, 1135], [1209, 1211, 1213, 1215, 1217, 1219], [8094, 8096, 8098, 8100], [6143, 6145, 6147, 6149], [7043, 7045, 7047, 7049, 7051, 7053, 7055, 7057, 7059, 7061, 7063, 7065, 7067, 7069, 7071, 7073], [], [], [], []]
/-- the places of instantiable, initialized -/
def zt_ini : List (Nat × Nat) := [(9238, 1034), (9091, 1040), (7103, 1027), (8171, 1030), (6110, 1013), (1184, 1008), (3122, 1031), (1105, 1004), (1156, 1007), (1051, 1002), (5014, 1038), (3200, 1032), (1139, 1006), (1058, 1003), (1120, 1005), (1043, 1001), (8079, 1033), (6104, 1010), (6097, 1009), (2009, 1023), (2078, 1024), (2094, 1025), (5156, 1041)]
/-- the component types of arrays, with the place of their word -/
def zt_at : List FieldType := [.object "ColumnVault$Sheet", .int, .long, .byte, .object "ColumnVaultModel$Table", .object "java/lang/Object", .boolean, .double]
def zt_ath : List Nat := [1057, 1094, 1095, 2076, 6103, 7015, 8239, 10161]
def zt_on : List String := ["java/lang/String", "java/lang/StringBuilder", "java/lang/Integer", "java/lang/Long", "java/util/ArrayList", "ColumnVault$Checks", "ColumnVault$FilterReader", "ColumnVault$FilterText", "ColumnVault$Groups", "ColumnVault$History", "ColumnVault$JoinWays", "ColumnVault$Node", "ColumnVault$Pairs", "ColumnVault$Sheet", "ColumnVault$Tokens", "ColumnVault", "ColumnVaultModel$Node", "ColumnVaultModel$Table", "ColumnVaultModel", "java/lang/IndexOutOfBoundsException", "java/lang/IllegalArgumentException", "java/lang/IllegalStateException", "java/util/NoSuchElementException", "ColumnVaultLaw", "java/lang/Math", "java/lang/StringLatin1", "jdk/internal/util/Preconditions", "java/lang/StringUTF16", "java/util/AbstractList", "java/util/AbstractCollection", "java/util/Objects", "jdk/internal/util/ArraysSupport", "java/util/Arrays", "java/lang/Number", "java/lang/Boolean", "java/lang/AbstractStringBuilder"]
/-- a method: name, bytes, locals, answer, table, its class's place, parameters, the place of its code's word; then the places of 'static' or 'instanceMethod', of 'selects', of 'initialized' -/
abbrev zx_M : Type := MethodName × ByteArray × Nat × Option FieldType × List (Nat × Nat × Nat × Nat) × Nat × Nat × Nat × Nat × Nat × Nat
def zt_m0 : List zx_M := [
  (⟨"ColumnVaultLaw", "law", "([I)Z"⟩, code, 9, some (.boolean), [], 23, 1, 0, 0, 99999, 0),
  (⟨"ColumnVault", "<init>", "()V"⟩, prog_1_method_1_code, 1, none, [], 15, 0, 0, 2, 99999, 0),
  (⟨"ColumnVault$History", "<init>", "()V"⟩, prog_6_method_1_code, 2, none, [], 9, 0, 0, 2, 99999, 0),
  (⟨"ColumnVault$Sheet", "<init>", "()V"⟩, prog_10_method_1_code, 1, none, [], 13, 0, 0, 2, 99999, 0),
  (⟨"ColumnVault$FilterText", "<init>", "()V"⟩, prog_4_method_1_code, 1, none, [], 7, 0, 0, 2, 99999, 0),
  (⟨"ColumnVault$Tokens", "<init>", "()V"⟩, prog_11_method_1_code, 1, none, [], 14, 0, 0, 2, 99999, 0),
  (⟨"ColumnVault$Pairs", "<init>", "()V"⟩, prog_9_method_1_code, 1, none, [], 12, 0, 0, 2, 99999, 0),
  (⟨"ColumnVault$Groups", "<init>", "()V"⟩, prog_5_method_1_code, 1, none, [], 8, 0, 0, 2, 99999, 0),
  (⟨"ColumnVault$Checks", "<init>", "()V"⟩, prog_2_method_1_code, 1, none, [], 5, 0, 0, 2, 99999, 0),
  (⟨"ColumnVault", "version", "()I"⟩, prog_1_method_10_code, 1, some (.int), [], 15, 0, 0, 0, 0, 0),
  (⟨"ColumnVault", "clearText", "()I"⟩, prog_1_method_23_code, 2, some (.int), [], 15, 0, 0, 0, 0, 0),
  (⟨"ColumnVaultLaw", "addColumn", "(LColumnVault;II[J)I"⟩, method_3_code, 5, some (.int), [(0, 10, 13, 13), (0, 10, 17, 15), (0, 10, 21, 17)], 23, 4, 0, 1, 99999, 0),
  (⟨"ColumnVault", "addColumn", "(II)I"⟩, prog_1_method_2_code, 4, some (.int), [], 15, 2, 0, 0, 0, 0),
  (⟨"ColumnVault", "sheetOf", "(I)LColumnVault$Sheet;"⟩, prog_1_method_41_code, 3, some (.object "ColumnVault$Sheet"), [], 15, 1, 0, 0, 0, 0),
  (⟨"ColumnVault$History", "sheetIn", "(II)LColumnVault$Sheet;"⟩, prog_6_method_3_code, 3, some (.object "ColumnVault$Sheet"), [], 9, 2, 0, 0, 0, 0),
  (⟨"ColumnVault", "nextSheetOf", "(I)LColumnVault$Sheet;"⟩, prog_1_method_43_code, 2, some (.object "ColumnVault$Sheet"), [], 15, 1, 0, 0, 0, 0),
  (⟨"ColumnVault$History", "makeNextFrom", "(I)V"⟩, prog_6_method_4_code, 5, none, [], 9, 1, 0, 0, 0, 0),
  (⟨"ColumnVault$Sheet", "copyFrom", "(LColumnVault$Sheet;)V"⟩, prog_10_method_2_code, 2, none, [], 13, 1, 0, 0, 0, 0),
  (⟨"ColumnVault$Sheet", "appendColumn", "(I)I"⟩, prog_10_method_11_code, 4, some (.int), [], 13, 1, 0, 0, 0, 0),
  (⟨"ColumnVault$Sheet", "putKey", "(IIJ)V"⟩, prog_10_method_8_code, 5, none, [], 13, 3, 0, 0, 0, 0),
  (⟨"ColumnVault$Sheet", "hasColumn", "(I)Z"⟩, prog_10_method_3_code, 2, some (.boolean), [], 13, 1, 0, 0, 0, 0),
  (⟨"ColumnVault$Sheet", "hasRow", "(I)Z"⟩, prog_10_method_4_code, 2, some (.boolean), [], 13, 1, 0, 0, 0, 0),
  (⟨"ColumnVaultLaw", "addRow", "(LColumnVault;I[J)I"⟩, method_4_code, 4, some (.int), [(0, 9, 12, 13), (0, 9, 15, 17)], 23, 3, 0, 1, 99999, 0),
  (⟨"ColumnVault", "addRow", "(I)I"⟩, prog_1_method_3_code, 2, some (.int), [], 15, 1, 0, 0, 0, 0),
  (⟨"ColumnVault$Sheet", "appendRow", "()I"⟩, prog_10_method_12_code, 3, some (.int), [], 13, 0, 0, 0, 0, 0),
  (⟨"ColumnVaultLaw", "fill", "(LColumnVault;IIIII[J)I"⟩, method_5_code, 8, some (.int), [(0, 16, 19, 13), (0, 16, 23, 15), (0, 16, 27, 17)], 23, 7, 0, 1, 99999, 0),
  (⟨"ColumnVault", "fill", "(IIIII)I"⟩, prog_1_method_4_code, 9, some (.int), [], 15, 5, 0, 0, 0, 0),
  (⟨"ColumnVault", "sheetWith", "(II)LColumnVault$Sheet;"⟩, prog_1_method_42_code, 4, some (.object "ColumnVault$Sheet"), [], 15, 2, 0, 0, 0, 0),
  (⟨"ColumnVault", "requireColumn", "(LColumnVault$Sheet;I)V"⟩, prog_1_method_47_code, 2, none, [], 15, 2, 0, 1, 99999, 0),
  (⟨"ColumnVault$Sheet", "kindOf", "(I)I"⟩, prog_10_method_6_code, 2, some (.int), [], 13, 1, 0, 0, 0, 0),
  (⟨"ColumnVault", "isNumber", "(J)Z"⟩, prog_1_method_53_code, 2, some (.boolean), [], 15, 1, 0, 1, 99999, 0),
  (⟨"ColumnVaultLaw", "set", "(LColumnVault;IIIJ[J)I"⟩, method_6_code, 8, some (.int), [(0, 21, 24, 13), (0, 21, 28, 15)], 23, 6, 0, 1, 99999, 0),
  (⟨"ColumnVault", "set", "(IIIJ)Z"⟩, prog_1_method_5_code, 12, some (.boolean), [], 15, 4, 0, 0, 0, 0),
  (⟨"ColumnVault", "requireRow", "(LColumnVault$Sheet;I)V"⟩, prog_1_method_48_code, 2, none, [], 15, 2, 0, 1, 99999, 0),
  (⟨"ColumnVault", "requireValue", "(IJ)V"⟩, prog_1_method_50_code, 3, none, [], 15, 2, 0, 1, 99999, 0),
  (⟨"ColumnVault", "isWord", "(J)Z"⟩, prog_1_method_54_code, 3, some (.boolean), [], 15, 1, 0, 1, 99999, 0),
  (⟨"ColumnVault", "isLetter", "(I)Z"⟩, prog_1_method_55_code, 1, some (.boolean), [], 15, 1, 0, 1, 99999, 0),
  (⟨"ColumnVault$Sheet", "keyAt", "(II)J"⟩, prog_10_method_7_code, 3, some (.long), [], 13, 2, 0, 0, 0, 0),
  (⟨"ColumnVault", "keyOf", "(IJ)J"⟩, prog_1_method_57_code, 6, some (.long), [], 15, 2, 0, 1, 99999, 0),
  (⟨"ColumnVaultLaw", "remove", "(LColumnVault;II[J)I"⟩, method_7_code, 5, some (.int), [(0, 10, 13, 13)], 23, 4, 0, 1, 99999, 0),
  (⟨"ColumnVault", "remove", "(II)I"⟩, prog_1_method_6_code, 4, some (.int), [], 15, 2, 0, 0, 0, 0),
  (⟨"ColumnVault$Sheet", "dropRow", "(I)V"⟩, prog_10_method_13_code, 4, none, [], 13, 1, 0, 0, 0, 0),
  (⟨"ColumnVault$Sheet", "dropFromOrder", "(I)V"⟩, prog_10_method_14_code, 5, none, [], 13, 1, 0, 0, 0, 0),
  (⟨"ColumnVaultLaw", "get", "(LColumnVault;III[J)I"⟩, method_8_code, 6, some (.int), [(0, 11, 14, 13)], 23, 5, 0, 1, 99999, 0),
  (⟨"ColumnVault", "get", "(III)J"⟩, prog_1_method_7_code, 5, some (.long), [], 15, 3, 0, 0, 0, 0),
  (⟨"ColumnVault$Sheet", "valueOf", "(II)J"⟩, prog_10_method_9_code, 3, some (.long), [], 13, 2, 0, 0, 0, 0),
  (⟨"ColumnVault", "toldOf", "(IJ)J"⟩, prog_1_method_58_code, 6, some (.long), [], 15, 2, 0, 1, 99999, 0),
  (⟨"ColumnVaultLaw", "size", "(LColumnVault;II[J)I"⟩, method_9_code, 5, some (.int), [(0, 10, 13, 13), (0, 10, 17, 15)], 23, 4, 0, 1, 99999, 0),
  (⟨"ColumnVault", "size", "(II)I"⟩, prog_1_method_8_code, 4, some (.int), [], 15, 2, 0, 0, 0, 0),
  (⟨"java/lang/Long", "bitCount", "(J)I"⟩, prog_30_method_50_code, 2, some (.int), [], 3, 1, 0, 1, 99999, 0),
  (⟨"ColumnVault$Sheet", "missingValues", "()I"⟩, prog_10_method_10_code, 3, some (.int), [], 13, 0, 0, 0, 0, 0),
  (⟨"ColumnVault$Sheet", "rowsWith", "(IJ)J"⟩, prog_10_method_24_code, 4, some (.long), [], 13, 2, 0, 0, 0, 0),
  (⟨"ColumnVault$Sheet", "rowsFromTo", "(IJJ)J"⟩, prog_10_method_25_code, 11, some (.long), [], 13, 3, 0, 0, 0, 0),
  (⟨"ColumnVaultLaw", "kind", "(LColumnVault;II[J)I"⟩, method_10_code, 5, some (.int), [(0, 10, 13, 13)], 23, 4, 0, 1, 99999, 0),
  (⟨"ColumnVault", "kind", "(II)I"⟩, prog_1_method_9_code, 3, some (.int), [], 15, 2, 0, 0, 0, 0),
  (⟨"ColumnVaultLaw", "back", "(LColumnVault;I[J)I"⟩, method_11_code, 4, some (.int), [(0, 9, 12, 13)], 23, 3, 0, 1, 99999, 0),
  (⟨"ColumnVault", "back", "(I)I"⟩, prog_1_method_11_code, 2, some (.int), [], 15, 1, 0, 0, 0, 0),
  (⟨"ColumnVault$History", "keeps", "(I)Z"⟩, prog_6_method_2_code, 2, some (.boolean), [], 9, 1, 0, 0, 0, 0),
  (⟨"ColumnVaultLaw", "sort", "(LColumnVault;IIZZ[J)I"⟩, method_12_code, 7, some (.int), [(0, 14, 17, 13)], 23, 6, 0, 1, 99999, 0),
  (⟨"ColumnVault", "sort", "(IIZZ)I"⟩, prog_1_method_12_code, 7, some (.int), [], 15, 4, 0, 0, 0, 0)]
def zt_m1 : List zx_M := [
  (⟨"ColumnVault$Sheet", "orderBy", "(IZZ)V"⟩, prog_10_method_18_code, 9, none, [], 13, 3, 0, 0, 0, 0),
  (⟨"ColumnVault", "isAhead", "(JJZZ)Z"⟩, prog_1_method_59_code, 6, some (.boolean), [], 15, 4, 0, 1, 99999, 0),
  (⟨"ColumnVault$Sheet", "placesUnlike", "(LColumnVault$Sheet;)I"⟩, prog_10_method_17_code, 4, some (.int), [], 13, 1, 0, 0, 0, 0),
  (⟨"ColumnVault$Sheet", "rowInOrder", "(I)I"⟩, prog_10_method_15_code, 2, some (.int), [], 13, 1, 0, 0, 0, 0),
  (⟨"ColumnVaultLaw", "rowAt", "(LColumnVault;II[J)I"⟩, method_13_code, 5, some (.int), [(0, 10, 13, 13)], 23, 4, 0, 1, 99999, 0),
  (⟨"ColumnVault", "rowAt", "(II)I"⟩, prog_1_method_13_code, 4, some (.int), [], 15, 2, 0, 0, 0, 0),
  (⟨"ColumnVault", "requirePlace", "(LColumnVault$Sheet;I)V"⟩, prog_1_method_49_code, 2, none, [], 15, 2, 0, 1, 99999, 0),
  (⟨"ColumnVaultLaw", "placeOf", "(LColumnVault;II[J)I"⟩, method_14_code, 5, some (.int), [(0, 10, 13, 13)], 23, 4, 0, 1, 99999, 0),
  (⟨"ColumnVault", "placeOf", "(II)I"⟩, prog_1_method_14_code, 4, some (.int), [], 15, 2, 0, 0, 0, 0),
  (⟨"ColumnVault$Sheet", "placeInOrder", "(I)I"⟩, prog_10_method_16_code, 3, some (.int), [], 13, 1, 0, 0, 0, 0),
  (⟨"ColumnVaultLaw", "isChosen", "(LColumnVault;II[J)I"⟩, method_15_code, 5, some (.int), [(0, 17, 20, 13)], 23, 4, 0, 1, 99999, 0),
  (⟨"ColumnVault", "isChosen", "(II)Z"⟩, prog_1_method_15_code, 4, some (.boolean), [], 15, 2, 0, 0, 0, 0),
  (⟨"ColumnVault", "holdsRow", "(JI)Z"⟩, prog_1_method_60_code, 3, some (.boolean), [], 15, 2, 0, 1, 99999, 0),
  (⟨"ColumnVaultLaw", "choose", "(LColumnVault;II[J)I"⟩, method_16_code, 5, some (.int), [(0, 10, 13, 13), (0, 10, 17, 15), (0, 10, 21, 17)], 23, 4, 0, 1, 99999, 0),
  (⟨"ColumnVault", "choose", "(II)I"⟩, prog_1_method_16_code, 6, some (.int), [], 15, 2, 0, 0, 0, 0),
  (⟨"ColumnVault", "filterOf", "(I)LColumnVault$Node;"⟩, prog_1_method_45_code, 3, some (.object "ColumnVault$Node"), [], 15, 1, 0, 0, 0, 0),
  (⟨"ColumnVault", "readerOf", "(I)LColumnVault$FilterReader;"⟩, prog_1_method_44_code, 2, some (.object "ColumnVault$FilterReader"), [], 15, 1, 0, 0, 0, 0),
  (⟨"ColumnVault$FilterReader", "<init>", "(LColumnVault$Tokens;LColumnVault$Sheet;)V"⟩, prog_3_method_1_code, 3, none, [], 6, 2, 0, 2, 99999, 0),
  (⟨"ColumnVault$FilterReader", "readWhole", "(LColumnVault$FilterText;)LColumnVault$Node;"⟩, prog_3_method_2_code, 3, some (.object "ColumnVault$Node"), [], 6, 1, 0, 0, 0, 0),
  (⟨"ColumnVault$Tokens", "readFrom", "(LColumnVault$FilterText;)V"⟩, prog_11_method_2_code, 4, none, [], 14, 1, 0, 0, 0, 0),
  (⟨"ColumnVault$FilterText", "byteAt", "(I)I"⟩, prog_4_method_2_code, 2, some (.int), [], 7, 1, 0, 0, 0, 0),
  (⟨"ColumnVault$Tokens", "readToken", "(LColumnVault$FilterText;I)I"⟩, prog_11_method_3_code, 5, some (.int), [], 14, 2, 0, 0, 0, 0),
  (⟨"ColumnVault$Tokens", "put", "(IIJ)V"⟩, prog_11_method_6_code, 5, none, [], 14, 3, 0, 0, 0, 0),
  (⟨"ColumnVault", "isDigit", "(I)Z"⟩, prog_1_method_56_code, 1, some (.boolean), [], 15, 1, 0, 1, 99999, 0),
  (⟨"ColumnVault$Tokens", "readWord", "(LColumnVault$FilterText;I)I"⟩, prog_11_method_4_code, 6, some (.int), [], 14, 2, 0, 0, 0, 0),
  (⟨"ColumnVault$Tokens", "readNumber", "(LColumnVault$FilterText;I)I"⟩, prog_11_method_5_code, 7, some (.int), [], 14, 2, 0, 0, 0, 0),
  (⟨"java/lang/Math", "min", "(JJ)J"⟩, prog_32_method_70_code, 4, some (.long), [], 24, 2, 0, 1, 99999, 0),
  (⟨"java/lang/Math", "max", "(II)I"⟩, prog_32_method_65_code, 2, some (.int), [], 24, 2, 0, 1, 99999, 0),
  (⟨"ColumnVault$FilterReader", "readFilter", "(I)LColumnVault$Node;"⟩, prog_3_method_5_code, 6, some (.object "ColumnVault$Node"), [], 6, 1, 0, 0, 0, 0),
  (⟨"ColumnVault$Node", "<init>", "(IJ)V"⟩, prog_8_method_1_code, 4, none, [], 11, 2, 0, 2, 99999, 0),
  (⟨"ColumnVault$FilterReader", "readPart", "(I)LColumnVault$Node;"⟩, prog_3_method_6_code, 6, some (.object "ColumnVault$Node"), [], 6, 1, 0, 0, 0, 0),
  (⟨"ColumnVault$Sheet", "allRows", "()J"⟩, prog_10_method_22_code, 1, some (.long), [], 13, 0, 0, 0, 0, 0),
  (⟨"ColumnVault$FilterReader", "readPiece", "(I)LColumnVault$Node;"⟩, prog_3_method_7_code, 4, some (.object "ColumnVault$Node"), [], 6, 1, 0, 0, 0, 0),
  (⟨"ColumnVault$FilterReader", "takes", "(I)Z"⟩, prog_3_method_4_code, 2, some (.boolean), [], 6, 1, 0, 0, 0, 0),
  (⟨"ColumnVault$Tokens", "formAt", "(I)I"⟩, prog_11_method_7_code, 2, some (.int), [], 14, 1, 0, 0, 0, 0),
  (⟨"ColumnVault$Tokens", "placeAt", "(I)I"⟩, prog_11_method_8_code, 2, some (.int), [], 14, 1, 0, 0, 0, 0),
  (⟨"ColumnVault$FilterReader", "fail", "(II)LColumnVault$Node;"⟩, prog_3_method_3_code, 3, some (.object "ColumnVault$Node"), [], 6, 2, 0, 0, 0, 0),
  (⟨"ColumnVault$FilterReader", "readBrackets", "(I)LColumnVault$Node;"⟩, prog_3_method_8_code, 3, some (.object "ColumnVault$Node"), [], 6, 1, 0, 0, 0, 0),
  (⟨"ColumnVault$FilterReader", "readTest", "()LColumnVault$Node;"⟩, prog_3_method_9_code, 3, some (.object "ColumnVault$Node"), [], 6, 0, 0, 0, 0, 0),
  (⟨"ColumnVault$Tokens", "valueAt", "(I)J"⟩, prog_11_method_9_code, 2, some (.long), [], 14, 1, 0, 0, 0, 0),
  (⟨"ColumnVault$FilterReader", "askedBy", "(I)I"⟩, prog_3_method_10_code, 5, some (.int), [], 6, 1, 0, 0, 0, 0),
  (⟨"ColumnVault$FilterReader", "readValues", "(II)Z"⟩, prog_3_method_11_code, 6, some (.boolean), [], 6, 2, 0, 0, 0, 0),
  (⟨"ColumnVault$FilterReader", "isValueNext", "()Z"⟩, prog_3_method_12_code, 2, some (.boolean), [], 6, 0, 0, 0, 0, 0),
  (⟨"ColumnVault$FilterReader", "readValue", "(I)Z"⟩, prog_3_method_13_code, 6, some (.boolean), [], 6, 1, 0, 0, 0, 0),
  (⟨"ColumnVault$FilterReader", "rowsOfTest", "(II)J"⟩, prog_3_method_14_code, 6, some (.long), [], 6, 2, 0, 0, 0, 0),
  (⟨"ColumnVault$Node", "turn", "(J)V"⟩, prog_8_method_2_code, 3, none, [], 11, 1, 0, 0, 0, 0),
  (⟨"ColumnVault$Node", "put", "(LColumnVault$Node;)V"⟩, prog_8_method_3_code, 2, none, [], 11, 1, 0, 0, 0, 0),
  (⟨"ColumnVault$Node", "putByCounts", "(LColumnVault$Node;)V"⟩, prog_8_method_4_code, 4, none, [], 11, 1, 0, 0, 0, 0),
  (⟨"ColumnVault$Node", "isFirst", "(LColumnVault$Node;LColumnVault$Node;)Z"⟩, prog_8_method_5_code, 5, some (.boolean), [], 11, 2, 0, 0, 0, 0),
  (⟨"ColumnVaultLaw", "turnChoice", "(LColumnVault;I[J)I"⟩, method_17_code, 4, some (.int), [(0, 9, 12, 13)], 23, 3, 0, 1, 99999, 0),
  (⟨"ColumnVault", "turnChoice", "(I)I"⟩, prog_1_method_17_code, 3, some (.int), [], 15, 1, 0, 0, 0, 0),
  (⟨"ColumnVaultLaw", "count", "(LColumnVault;I[J)I"⟩, method_18_code, 4, some (.int), [(0, 9, 12, 13), (0, 9, 15, 17)], 23, 3, 0, 1, 99999, 0),
  (⟨"ColumnVault", "count", "(I)I"⟩, prog_1_method_18_code, 2, some (.int), [], 15, 1, 0, 0, 0, 0),
  (⟨"ColumnVaultLaw", "reads", "(LColumnVault;IZ[J)I"⟩, method_19_code, 5, some (.int), [(0, 10, 13, 13), (0, 10, 17, 17)], 23, 4, 0, 1, 99999, 0),
  (⟨"ColumnVault", "reads", "(IZ)I"⟩, prog_1_method_19_code, 3, some (.int), [], 15, 2, 0, 0, 0, 0),
  (⟨"ColumnVault", "readsOf", "(LColumnVault$Node;JZI)I"⟩, prog_1_method_63_code, 9, some (.int), [], 15, 4, 0, 1, 99999, 0),
  (⟨"ColumnVaultLaw", "errorKind", "(LColumnVault;I[J)I"⟩, method_20_code, 4, some (.int), [(0, 9, 12, 13)], 23, 3, 0, 1, 99999, 0),
  (⟨"ColumnVault", "errorKind", "(I)I"⟩, prog_1_method_20_code, 3, some (.int), [], 15, 1, 0, 0, 0, 0),
  (⟨"ColumnVaultLaw", "errorPlace", "(LColumnVault;I[J)I"⟩, method_21_code, 4, some (.int), [(0, 9, 12, 13)], 23, 3, 0, 1, 99999, 0),
  (⟨"ColumnVault", "errorPlace", "(I)I"⟩, prog_1_method_21_code, 3, some (.int), [], 15, 1, 0, 0, 0, 0)]
def zt_m2 : List zx_M := [
  (⟨"ColumnVaultLaw", "type", "(LColumnVault;J[J)I"⟩, method_22_code, 5, some (.int), [(0, 9, 12, 17)], 23, 3, 0, 1, 99999, 0),
  (⟨"ColumnVault", "type", "(J)I"⟩, prog_1_method_22_code, 3, some (.int), [], 15, 1, 0, 0, 0, 0),
  (⟨"ColumnVault", "bytesIn", "(J)I"⟩, prog_1_method_61_code, 4, some (.int), [], 15, 1, 0, 1, 99999, 0),
  (⟨"ColumnVault$FilterText", "appendBytes", "(J)V"⟩, prog_4_method_4_code, 4, none, [], 7, 1, 0, 0, 0, 0),
  (⟨"ColumnVault$FilterText", "append", "(I)V"⟩, prog_4_method_3_code, 2, none, [], 7, 1, 0, 0, 0, 0),
  (⟨"ColumnVaultLaw", "example", "(LColumnVault;I[J)I"⟩, method_23_code, 4, some (.int), [(0, 9, 12, 15)], 23, 3, 0, 1, 99999, 0),
  (⟨"ColumnVault", "example", "(I)I"⟩, prog_1_method_24_code, 2, some (.int), [], 15, 1, 0, 0, 0, 0),
  (⟨"ColumnVault$FilterText", "replaceBy", "(Ljava/lang/String;)V"⟩, prog_4_method_5_code, 3, none, [], 7, 1, 0, 0, 0, 0),
  (⟨"java/lang/String", "length", "()I"⟩, prog_35_method_54_code, 1, some (.int), [], 0, 0, 0, 0, 0, 0),
  (⟨"java/lang/String", "coder", "()B"⟩, prog_35_method_152_code, 1, some (.byte), [], 0, 0, 0, 0, 0, 0),
  (⟨"java/lang/String", "charAt", "(I)C"⟩, prog_35_method_56_code, 2, some (.char), [], 0, 1, 0, 0, 0, 0),
  (⟨"java/lang/String", "isLatin1", "()Z"⟩, prog_35_method_154_code, 1, some (.boolean), [], 0, 0, 0, 0, 0, 0),
  (⟨"java/lang/StringLatin1", "charAt", "([BI)C"⟩, prog_37_method_2_code, 2, some (.char), [], 25, 2, 0, 1, 99999, 0),
  (⟨"java/lang/String", "checkIndex", "(II)V"⟩, prog_35_method_155_code, 2, none, [], 0, 2, 0, 1, 99999, 0),
  (⟨"jdk/internal/util/Preconditions", "checkIndex", "(IILjava/util/function/BiFunction;)I"⟩, prog_54_method_11_code, 3, some (.int), [], 26, 3, 0, 1, 99999, 0),
  (⟨"java/lang/StringUTF16", "charAt", "([BI)C"⟩, prog_38_method_83_code, 2, some (.char), [], 27, 2, 0, 1, 99999, 0),
  (⟨"java/lang/StringUTF16", "checkIndex", "(I[B)V"⟩, prog_38_method_91_code, 2, none, [], 27, 2, 0, 1, 99999, 0),
  (⟨"java/lang/StringUTF16", "length", "([B)I"⟩, prog_38_method_6_code, 1, some (.int), [], 27, 1, 0, 1, 99999, 0),
  (⟨"java/lang/StringUTF16", "getChar", "([BI)C"⟩, prog_38_method_5_code, 2, some (.char), [], 27, 2, 0, 1, 99999, 0),
  (⟨"ColumnVaultLaw", "join", "(LColumnVault;IIIII[J)I"⟩, method_24_code, 8, some (.int), [(0, 16, 19, 13), (0, 16, 23, 15)], 23, 7, 0, 1, 99999, 0),
  (⟨"ColumnVault", "join", "(IIIII)I"⟩, prog_1_method_25_code, 8, some (.int), [], 15, 5, 0, 0, 0, 0),
  (⟨"ColumnVault", "requireSameKind", "(II)V"⟩, prog_1_method_52_code, 2, none, [], 15, 2, 0, 1, 99999, 0),
  (⟨"ColumnVault$Pairs", "make", "(LColumnVault$Sheet;ILColumnVault$Sheet;II)V"⟩, prog_9_method_2_code, 11, none, [], 12, 5, 0, 0, 0, 0),
  (⟨"ColumnVault$Pairs", "putRow", "(IJI)V"⟩, prog_9_method_3_code, 6, none, [], 12, 3, 0, 0, 0, 0),
  (⟨"ColumnVault$Pairs", "put", "(II)V"⟩, prog_9_method_4_code, 3, none, [], 12, 2, 0, 0, 0, 0),
  (⟨"ColumnVaultLaw", "pairAt", "(LColumnVault;IZ[J)I"⟩, method_25_code, 5, some (.int), [(0, 10, 13, 13)], 23, 4, 0, 1, 99999, 0),
  (⟨"ColumnVault", "pairAt", "(IZ)I"⟩, prog_1_method_26_code, 3, some (.int), [], 15, 2, 0, 0, 0, 0),
  (⟨"ColumnVault$Pairs", "rowOf", "(IZ)I"⟩, prog_9_method_5_code, 3, some (.int), [], 12, 2, 0, 0, 0, 0),
  (⟨"ColumnVaultLaw", "joinErrors", "(LColumnVault;IIII[J)I"⟩, method_26_code, 7, some (.int), [(0, 14, 17, 13), (0, 14, 21, 15)], 23, 6, 0, 1, 99999, 0),
  (⟨"ColumnVault", "joinErrors", "(IIII)I"⟩, prog_1_method_27_code, 7, some (.int), [], 15, 4, 0, 0, 0, 0),
  (⟨"ColumnVault$JoinWays", "<init>", "(LColumnVault$Sheet;ILColumnVault$Sheet;I)V"⟩, prog_7_method_1_code, 5, none, [], 10, 4, 0, 2, 99999, 0),
  (⟨"ColumnVault$JoinWays", "pairsNotToldByAll", "()I"⟩, prog_7_method_2_code, 9, some (.int), [], 10, 0, 0, 0, 0, 0),
  (⟨"ColumnVault$Sheet", "risingRows", "(IJ)[I"⟩, prog_10_method_28_code, 12, some (.array (.int)), [], 13, 2, 0, 0, 0, 0),
  (⟨"ColumnVault$Sheet", "knownRows", "(I)J"⟩, prog_10_method_23_code, 2, some (.long), [], 13, 1, 0, 0, 0, 0),
  (⟨"ColumnVault$JoinWays", "byMerging", "([I[I)[J"⟩, prog_7_method_3_code, 9, some (.array (.long)), [], 10, 2, 0, 0, 0, 0),
  (⟨"ColumnVault$JoinWays", "rowsWithKeyFrom", "([IIJ)J"⟩, prog_7_method_6_code, 8, some (.long), [], 10, 3, 0, 0, 0, 0),
  (⟨"ColumnVault$JoinWays", "byLookingUp", "([I)[J"⟩, prog_7_method_4_code, 6, some (.array (.long)), [], 10, 1, 0, 0, 0, 0),
  (⟨"ColumnVault$JoinWays", "firstPlaceOf", "([IJ)I"⟩, prog_7_method_5_code, 8, some (.int), [], 10, 2, 0, 0, 0, 0),
  (⟨"ColumnVault$JoinWays", "byTrying", "()[J"⟩, prog_7_method_7_code, 6, some (.array (.long)), [], 10, 0, 0, 0, 0, 0),
  (⟨"ColumnVaultLaw", "group", "(LColumnVault;II[J)I"⟩, method_27_code, 5, some (.int), [(0, 10, 13, 13)], 23, 4, 0, 1, 99999, 0),
  (⟨"ColumnVault", "group", "(II)I"⟩, prog_1_method_28_code, 3, some (.int), [], 15, 2, 0, 0, 0, 0),
  (⟨"ColumnVault$Groups", "make", "(LColumnVault$Sheet;I)V"⟩, prog_5_method_2_code, 4, none, [], 8, 2, 0, 0, 0, 0),
  (⟨"ColumnVault$Groups", "put", "(I)V"⟩, prog_5_method_3_code, 5, none, [], 8, 1, 0, 0, 0, 0),
  (⟨"ColumnVault$Groups", "open", "(IJ)V"⟩, prog_5_method_4_code, 5, none, [], 8, 2, 0, 0, 0, 0),
  (⟨"ColumnVaultLaw", "groupAt", "(LColumnVault;II[J)I"⟩, method_28_code, 5, some (.int), [(0, 9, 12, 13), (0, 9, 16, 15)], 23, 4, 0, 1, 99999, 0),
  (⟨"ColumnVault", "groupAt", "(II)J"⟩, prog_1_method_29_code, 3, some (.long), [], 15, 2, 0, 0, 0, 0),
  (⟨"ColumnVault", "requireGroup", "(I)V"⟩, prog_1_method_46_code, 2, none, [], 15, 1, 0, 0, 0, 0),
  (⟨"ColumnVault$Groups", "valueAt", "(I)J"⟩, prog_5_method_6_code, 2, some (.long), [], 8, 1, 0, 0, 0, 0),
  (⟨"ColumnVault$Groups", "keyOfGroup", "(I)J"⟩, prog_5_method_5_code, 2, some (.long), [], 8, 1, 0, 0, 0, 0),
  (⟨"ColumnVault$Groups", "rowsIn", "(I)J"⟩, prog_5_method_7_code, 2, some (.long), [], 8, 1, 0, 0, 0, 0),
  (⟨"ColumnVault$Sheet", "firstOf", "(J)I"⟩, prog_10_method_19_code, 4, some (.int), [], 13, 1, 0, 0, 0, 0),
  (⟨"ColumnVault$Sheet", "lastOf", "(J)I"⟩, prog_10_method_20_code, 4, some (.int), [], 13, 1, 0, 0, 0, 0),
  (⟨"ColumnVaultLaw", "total", "(LColumnVault;III[J)I"⟩, method_29_code, 6, some (.int), [(0, 11, 14, 13), (0, 11, 18, 15), (0, 11, 22, 107)], 23, 5, 0, 1, 99999, 0),
  (⟨"ColumnVault", "total", "(III)J"⟩, prog_1_method_30_code, 5, some (.long), [], 15, 3, 0, 0, 0, 0),
  (⟨"ColumnVault", "totalOf", "(LColumnVault$Sheet;IJI)J"⟩, prog_1_method_62_code, 8, some (.long), [], 15, 4, 0, 1, 99999, 0),
  (⟨"ColumnVault$Sheet", "sumOf", "(IJ)J"⟩, prog_10_method_27_code, 9, some (.long), [], 13, 2, 0, 0, 0, 0),
  (⟨"ColumnVault$Sheet", "differentKeys", "(I[I)I"⟩, prog_10_method_29_code, 5, some (.int), [], 13, 2, 0, 0, 0, 0),
  (⟨"ColumnVaultLaw", "groupTotal", "(LColumnVault;III[J)I"⟩, method_30_code, 6, some (.int), [(0, 11, 14, 13), (0, 11, 18, 15), (0, 11, 22, 107)], 23, 5, 0, 1, 99999, 0),
  (⟨"ColumnVault", "groupTotal", "(III)J"⟩, prog_1_method_31_code, 4, some (.long), [], 15, 3, 0, 0, 0, 0),
  (⟨"ColumnVaultLaw", "running", "(LColumnVault;III[J)I"⟩, method_31_code, 6, some (.int), [(0, 11, 14, 13), (0, 11, 18, 15)], 23, 5, 0, 1, 99999, 0)]
def zt_m3 : List zx_M := [
  (⟨"ColumnVault", "running", "(III)J"⟩, prog_1_method_32_code, 5, some (.long), [], 15, 3, 0, 0, 0, 0),
  (⟨"ColumnVault", "requireNumbers", "(LColumnVault$Sheet;I)V"⟩, prog_1_method_51_code, 2, none, [], 15, 2, 0, 1, 99999, 0),
  (⟨"ColumnVault$Sheet", "rowsUpTo", "(I)J"⟩, prog_10_method_21_code, 5, some (.long), [], 13, 1, 0, 0, 0, 0),
  (⟨"ColumnVaultLaw", "rank", "(LColumnVault;IIII[J)I"⟩, method_32_code, 7, some (.int), [(0, 14, 17, 13), (0, 14, 21, 107)], 23, 6, 0, 1, 99999, 0),
  (⟨"ColumnVault", "rank", "(IIII)I"⟩, prog_1_method_33_code, 8, some (.int), [], 15, 4, 0, 0, 0, 0),
  (⟨"ColumnVaultLaw", "previous", "(LColumnVault;III[J)I"⟩, method_33_code, 6, some (.int), [(0, 12, 15, 13)], 23, 5, 0, 1, 99999, 0),
  (⟨"ColumnVault", "previous", "(III)I"⟩, prog_1_method_34_code, 6, some (.int), [], 15, 3, 0, 0, 0, 0),
  (⟨"ColumnVaultLaw", "between", "(LColumnVault;IIJJ[J)I"⟩, method_34_code, 9, some (.int), [(0, 14, 17, 13), (0, 14, 21, 15)], 23, 6, 0, 1, 99999, 0),
  (⟨"ColumnVault", "between", "(IIJJ)I"⟩, prog_1_method_35_code, 9, some (.int), [], 15, 4, 0, 0, 0, 0),
  (⟨"ColumnVaultLaw", "nearest", "(LColumnVault;IIJZ[J)I"⟩, method_35_code, 8, some (.int), [(0, 13, 16, 13), (0, 13, 20, 15), (0, 13, 24, 107)], 23, 6, 0, 1, 99999, 0),
  (⟨"ColumnVault", "nearest", "(IIJZ)J"⟩, prog_1_method_36_code, 10, some (.long), [], 15, 4, 0, 0, 0, 0),
  (⟨"ColumnVault$Sheet", "nearestKey", "(IJZ)J"⟩, prog_10_method_26_code, 11, some (.long), [], 13, 3, 0, 0, 0, 0),
  (⟨"ColumnVaultLaw", "alike", "(LColumnVault;III[J)I"⟩, method_36_code, 6, some (.int), [(0, 12, 15, 13), (0, 12, 19, 15)], 23, 5, 0, 1, 99999, 0),
  (⟨"ColumnVault", "alike", "(III)I"⟩, prog_1_method_37_code, 6, some (.int), [], 15, 3, 0, 0, 0, 0),
  (⟨"ColumnVault$Sheet", "hasKindsOf", "(LColumnVault$Sheet;)Z"⟩, prog_10_method_5_code, 4, some (.boolean), [], 13, 1, 0, 0, 0, 0),
  (⟨"ColumnVault$Sheet", "rowsLeftBy", "(LColumnVault$Sheet;)I"⟩, prog_10_method_34_code, 7, some (.int), [], 13, 1, 0, 0, 0, 0),
  (⟨"ColumnVault$Sheet", "chosenAlike", "(ILColumnVault$Sheet;)J"⟩, prog_10_method_31_code, 6, some (.long), [], 13, 2, 0, 0, 0, 0),
  (⟨"ColumnVault$Sheet", "isAlike", "(ILColumnVault$Sheet;I)Z"⟩, prog_10_method_30_code, 5, some (.boolean), [], 13, 3, 0, 0, 0, 0),
  (⟨"ColumnVault$Sheet", "differentRows", "()J"⟩, prog_10_method_32_code, 4, some (.long), [], 13, 0, 0, 0, 0, 0),
  (⟨"ColumnVault$Sheet", "differentRowsOnlyHere", "(LColumnVault$Sheet;)I"⟩, prog_10_method_33_code, 6, some (.int), [], 13, 1, 0, 0, 0, 0),
  (⟨"ColumnVaultLaw", "errors", "(LColumnVault;I[J)I"⟩, method_37_code, 4, some (.int), [(0, 9, 12, 13)], 23, 3, 0, 1, 99999, 0),
  (⟨"ColumnVault", "errors", "(I)I"⟩, prog_1_method_38_code, 2, some (.int), [], 15, 1, 0, 0, 0, 0),
  (⟨"ColumnVault$Checks", "failuresOf", "(LColumnVault$Sheet;)I"⟩, prog_2_method_2_code, 5, some (.int), [], 5, 1, 0, 0, 0, 0),
  (⟨"ColumnVault$Checks", "isInBothOrders", "(LColumnVault$Sheet;II)Z"⟩, prog_2_method_3_code, 5, some (.boolean), [], 5, 3, 0, 0, 0, 0),
  (⟨"ColumnVault$Checks", "standsAhead", "(LColumnVault$Sheet;IIII)Z"⟩, prog_2_method_4_code, 10, some (.boolean), [], 5, 5, 0, 0, 0, 0),
  (⟨"ColumnVault$Checks", "groupFailures", "(LColumnVault$Sheet;I)I"⟩, prog_2_method_5_code, 6, some (.int), [], 5, 2, 0, 0, 0, 0),
  (⟨"ColumnVault$Checks", "sumOfGroups", "(I)J"⟩, prog_2_method_6_code, 5, some (.long), [], 5, 1, 0, 0, 0, 0),
  (⟨"ColumnVault$Checks", "rangeFailures", "(LColumnVault$Sheet;I)I"⟩, prog_2_method_7_code, 5, some (.int), [], 5, 2, 0, 0, 0, 0),
  (⟨"ColumnVault$Checks", "failuresFrom", "(IJ)I"⟩, prog_2_method_8_code, 7, some (.int), [], 5, 2, 0, 0, 0, 0),
  (⟨"ColumnVaultLaw", "meanOf", "(LColumnVault;II[D)I"⟩, method_38_code, 5, some (.int), [(0, 9, 12, 13), (0, 9, 16, 15)], 23, 4, 0, 1, 99999, 0),
  (⟨"ColumnVault", "meanOf", "(II)D"⟩, prog_1_method_39_code, 5, some (.double), [], 15, 2, 0, 0, 0, 0),
  (⟨"ColumnVaultLaw", "chosenShare", "(LColumnVault;I[D)I"⟩, method_39_code, 4, some (.int), [(0, 9, 12, 13)], 23, 3, 0, 1, 99999, 0),
  (⟨"ColumnVault", "chosenShare", "(I)F"⟩, prog_1_method_40_code, 3, some (.float), [], 15, 1, 0, 0, 0, 0),
  (⟨"ColumnVaultModel", "thrown", "()I"⟩, prog_13_method_1_code, 1, some (.int), [], 18, 0, 0, 0, 0, 0),
  (⟨"ColumnVaultModel", "<init>", "()V"⟩, prog_13_method_8_code, 2, none, [], 18, 0, 0, 2, 99999, 0),
  (⟨"ColumnVaultModel$Table", "<init>", "()V"⟩, prog_15_method_1_code, 1, none, [], 17, 0, 0, 2, 99999, 0),
  (⟨"java/util/ArrayList", "<init>", "()V"⟩, prog_45_method_2_code, 1, none, [], 4, 0, 0, 2, 99999, 0),
  (⟨"java/util/AbstractList", "<init>", "()V"⟩, prog_44_method_1_code, 1, none, [], 28, 0, 0, 2, 99999, 0),
  (⟨"java/util/AbstractCollection", "<init>", "()V"⟩, prog_43_method_1_code, 1, none, [], 29, 0, 0, 2, 99999, 0),
  (⟨"ColumnVaultModel", "copies", "([LColumnVaultModel$Table;)[LColumnVaultModel$Table;"⟩, prog_13_method_9_code, 3, some (.array (.object "ColumnVaultModel$Table")), [], 18, 1, 0, 1, 99999, 0),
  (⟨"ColumnVaultModel$Table", "copy", "()LColumnVaultModel$Table;"⟩, prog_15_method_2_code, 5, some (.object "ColumnVaultModel$Table"), [], 17, 0, 0, 0, 0, 0),
  (⟨"java/util/ArrayList", "size", "()I"⟩, prog_45_method_8_code, 1, some (.int), [], 4, 0, 0, 0, 99999, 0),
  (⟨"java/util/ArrayList", "get", "(I)Ljava/lang/Object;"⟩, prog_45_method_20_code, 2, some (.object "java/lang/Object"), [], 4, 1, 0, 0, 99999, 0),
  (⟨"java/util/Objects", "checkIndex", "(II)I"⟩, prog_50_method_17_code, 2, some (.int), [], 30, 2, 0, 1, 99999, 0),
  (⟨"java/util/ArrayList", "elementData", "(I)Ljava/lang/Object;"⟩, prog_45_method_18_code, 2, some (.object "java/lang/Object"), [], 4, 1, 0, 0, 0, 0),
  (⟨"java/util/ArrayList", "add", "(Ljava/lang/Object;)Z"⟩, prog_45_method_25_code, 2, some (.boolean), [], 4, 1, 0, 0, 99999, 0),
  (⟨"java/util/ArrayList", "add", "(Ljava/lang/Object;[Ljava/lang/Object;I)V"⟩, prog_45_method_24_code, 4, none, [], 4, 3, 0, 0, 0, 0),
  (⟨"java/util/ArrayList", "grow", "()[Ljava/lang/Object;"⟩, prog_45_method_7_code, 1, some (.array (.object "java/lang/Object")), [], 4, 0, 0, 0, 0, 0),
  (⟨"java/util/ArrayList", "grow", "(I)[Ljava/lang/Object;"⟩, prog_45_method_6_code, 4, some (.array (.object "java/lang/Object")), [], 4, 1, 0, 0, 0, 0),
  (⟨"jdk/internal/util/ArraysSupport", "newLength", "(III)I"⟩, prog_53_method_27_code, 4, some (.int), [], 31, 3, 0, 1, 99999, 0),
  (⟨"jdk/internal/util/ArraysSupport", "hugeLength", "(II)I"⟩, prog_53_method_28_code, 3, some (.int), [], 31, 2, 0, 1, 99999, 0),
  (⟨"java/util/Arrays", "copyOf", "([Ljava/lang/Object;I)[Ljava/lang/Object;"⟩, prog_46_method_119_code, 2, some (.array (.object "java/lang/Object")), [], 32, 2, 0, 1, 99999, 0),
  (⟨"java/util/Arrays", "copyOf", "([Ljava/lang/Object;ILjava/lang/Class;)[Ljava/lang/Object;"⟩, prog_46_method_120_code, 4, some (.array (.object "java/lang/Object")), [], 32, 3, 0, 1, 99999, 0),
  (⟨"java/lang/Math", "min", "(II)I"⟩, prog_32_method_69_code, 2, some (.int), [], 24, 2, 0, 1, 99999, 0),
  (⟨"ColumnVaultModel", "addColumn", "(II)I"⟩, prog_13_method_14_code, 5, some (.int), [], 18, 2, 0, 0, 0, 0),
  (⟨"ColumnVaultModel", "isTable", "(I)Z"⟩, prog_13_method_11_code, 1, some (.boolean), [], 18, 1, 0, 1, 99999, 0),
  (⟨"ColumnVaultModel", "in", "(JJJ)Z"⟩, prog_13_method_2_code, 6, some (.boolean), [], 18, 3, 0, 1, 99999, 0),
  (⟨"ColumnVaultModel$Table", "columns", "()I"⟩, prog_15_method_3_code, 1, some (.int), [], 17, 0, 0, 0, 0, 0),
  (⟨"ColumnVaultModel", "passes", "(ZZZ)Z"⟩, prog_13_method_3_code, 4, some (.boolean), [], 18, 3, 0, 0, 0, 0),
  (⟨"java/lang/Integer", "valueOf", "(I)Ljava/lang/Integer;"⟩, prog_27_method_22_code, 1, some (.object "java/lang/Integer"), [], 2, 1, 0, 1, 99999, 0)]
def zt_m4 : List zx_M := [
  (⟨"java/lang/Integer", "<init>", "(I)V"⟩, prog_27_method_23_code, 2, none, [], 2, 1, 0, 2, 99999, 0),
  (⟨"java/lang/Number", "<init>", "()V"⟩, prog_33_method_1_code, 1, none, [], 33, 0, 0, 2, 99999, 0),
  (⟨"ColumnVaultModel", "changed", "(I)I"⟩, prog_13_method_10_code, 4, some (.int), [], 18, 1, 0, 0, 0, 0),
  (⟨"java/util/ArrayList", "remove", "(I)Ljava/lang/Object;"⟩, prog_45_method_29_code, 4, some (.object "java/lang/Object"), [], 4, 1, 0, 0, 99999, 0),
  (⟨"java/util/ArrayList", "fastRemove", "([Ljava/lang/Object;I)V"⟩, prog_45_method_39_code, 4, none, [], 4, 2, 0, 0, 0, 0),
  (⟨"ColumnVaultModel", "addRow", "(I)I"⟩, prog_13_method_15_code, 3, some (.int), [], 18, 1, 0, 0, 0, 0),
  (⟨"ColumnVaultModel$Table", "rows", "()I"⟩, prog_15_method_4_code, 1, some (.int), [], 17, 0, 0, 0, 0, 0),
  (⟨"ColumnVaultModel$Table", "addRow", "()I"⟩, prog_15_method_9_code, 3, some (.int), [], 17, 0, 0, 0, 0, 0),
  (⟨"java/lang/Boolean", "valueOf", "(Z)Ljava/lang/Boolean;"⟩, prog_19_method_5_code, 1, some (.object "java/lang/Boolean"), [], 34, 1, 0, 1, 99999, 0),
  (⟨"ColumnVaultModel", "fill", "(IIIII)I"⟩, prog_13_method_16_code, 10, some (.int), [], 18, 5, 0, 0, 0, 0),
  (⟨"ColumnVaultModel", "isColumn", "(II)Z"⟩, prog_13_method_12_code, 3, some (.boolean), [], 18, 2, 0, 0, 0, 0),
  (⟨"ColumnVaultModel$Table", "kind", "(I)I"⟩, prog_15_method_7_code, 2, some (.int), [], 17, 1, 0, 0, 0, 0),
  (⟨"java/lang/Integer", "intValue", "()I"⟩, prog_27_method_27_code, 1, some (.int), [], 2, 0, 0, 0, 0, 0),
  (⟨"ColumnVaultModel", "set", "(IIIJ)Z"⟩, prog_13_method_17_code, 8, some (.boolean), [], 18, 4, 0, 0, 0, 0),
  (⟨"ColumnVaultModel", "isRow", "(II)Z"⟩, prog_13_method_13_code, 3, some (.boolean), [], 18, 2, 0, 0, 0, 0),
  (⟨"ColumnVaultModel", "isValue", "(IJ)Z"⟩, prog_13_method_5_code, 3, some (.boolean), [], 18, 2, 0, 1, 99999, 0),
  (⟨"ColumnVaultModel", "isText", "(J)Z"⟩, prog_13_method_4_code, 5, some (.boolean), [], 18, 1, 0, 1, 99999, 0),
  (⟨"ColumnVaultModel$Table", "value", "(II)J"⟩, prog_15_method_5_code, 3, some (.long), [], 17, 2, 0, 0, 0, 0),
  (⟨"ColumnVaultModel", "remove", "(II)I"⟩, prog_13_method_18_code, 3, some (.int), [], 18, 2, 0, 0, 0, 0),
  (⟨"ColumnVaultModel$Table", "remove", "(I)V"⟩, prog_15_method_10_code, 8, none, [], 17, 1, 0, 0, 0, 0),
  (⟨"java/lang/Boolean", "booleanValue", "()Z"⟩, prog_19_method_4_code, 1, some (.boolean), [], 34, 0, 0, 0, 0, 0),
  (⟨"ColumnVaultModel$Table", "placeOf", "(I)I"⟩, prog_15_method_11_code, 3, some (.int), [], 17, 1, 0, 0, 0, 0),
  (⟨"java/util/ArrayList", "set", "(ILjava/lang/Object;)Ljava/lang/Object;"⟩, prog_45_method_23_code, 4, some (.object "java/lang/Object"), [], 4, 2, 0, 0, 99999, 0),
  (⟨"ColumnVaultModel", "get", "(III)J"⟩, prog_13_method_19_code, 4, some (.long), [], 18, 3, 0, 0, 0, 0),
  (⟨"ColumnVaultModel", "size", "(II)I"⟩, prog_13_method_21_code, 4, some (.int), [], 18, 2, 0, 0, 0, 0),
  (⟨"ColumnVaultModel$Table", "chosenRows", "()I"⟩, prog_15_method_12_code, 3, some (.int), [], 17, 0, 0, 0, 0, 0),
  (⟨"ColumnVaultModel$Table", "isChosen", "(I)Z"⟩, prog_15_method_8_code, 2, some (.boolean), [], 17, 1, 0, 0, 0, 0),
  (⟨"ColumnVaultModel", "missing", "(LColumnVaultModel$Table;)I"⟩, prog_13_method_20_code, 4, some (.int), [], 18, 1, 0, 1, 99999, 0),
  (⟨"ColumnVaultModel$Table", "isThere", "(II)Z"⟩, prog_15_method_6_code, 3, some (.boolean), [], 17, 2, 0, 0, 0, 0),
  (⟨"ColumnVaultModel", "kind", "(II)I"⟩, prog_13_method_22_code, 3, some (.int), [], 18, 2, 0, 0, 0, 0),
  (⟨"ColumnVaultModel", "version", "()I"⟩, prog_13_method_23_code, 1, some (.int), [], 18, 0, 0, 0, 0, 0),
  (⟨"ColumnVaultModel", "back", "(I)I"⟩, prog_13_method_24_code, 4, some (.int), [], 18, 1, 0, 0, 0, 0),
  (⟨"ColumnVaultModel", "sort", "(IIZZ)I"⟩, prog_13_method_25_code, 5, some (.int), [], 18, 4, 0, 0, 0, 0),
  (⟨"ColumnVaultModel$Table", "sort", "(IZZ)I"⟩, prog_15_method_14_code, 9, some (.int), [], 17, 3, 0, 0, 0, 0),
  (⟨"ColumnVaultModel$Table", "isAhead", "(IIIZZ)Z"⟩, prog_15_method_13_code, 7, some (.boolean), [], 17, 5, 0, 0, 0, 0),
  (⟨"ColumnVaultModel", "compared", "(IJJ)I"⟩, prog_13_method_7_code, 9, some (.int), [], 18, 3, 0, 1, 99999, 0),
  (⟨"ColumnVaultModel", "alphabetical", "(J)J"⟩, prog_13_method_6_code, 4, some (.long), [], 18, 1, 0, 1, 99999, 0),
  (⟨"ColumnVaultModel", "rowAt", "(II)I"⟩, prog_13_method_26_code, 3, some (.int), [], 18, 2, 0, 0, 0, 0),
  (⟨"ColumnVaultModel", "placeOf", "(II)I"⟩, prog_13_method_27_code, 3, some (.int), [], 18, 2, 0, 0, 0, 0),
  (⟨"ColumnVaultModel", "isChosen", "(II)Z"⟩, prog_13_method_28_code, 3, some (.boolean), [], 18, 2, 0, 0, 0, 0),
  (⟨"ColumnVaultModel", "choose", "(II)I"⟩, prog_13_method_29_code, 9, some (.int), [], 18, 2, 0, 0, 0, 0),
  (⟨"ColumnVaultModel", "filter", "(I)LColumnVaultModel$Node;"⟩, prog_13_method_45_code, 3, some (.object "ColumnVaultModel$Node"), [], 18, 1, 0, 0, 0, 0),
  (⟨"ColumnVaultModel", "filterPart", "(I)LColumnVaultModel$Node;"⟩, prog_13_method_36_code, 5, some (.object "ColumnVaultModel$Node"), [], 18, 1, 0, 0, 0, 0),
  (⟨"ColumnVaultModel$Node", "<init>", "(I)V"⟩, prog_14_method_1_code, 2, none, [], 16, 1, 0, 2, 99999, 0),
  (⟨"ColumnVaultModel", "piece", "(I)LColumnVaultModel$Node;"⟩, prog_13_method_37_code, 3, some (.object "ColumnVaultModel$Node"), [], 18, 1, 0, 0, 0, 0),
  (⟨"ColumnVaultModel", "next", "()I"⟩, prog_13_method_35_code, 1, some (.int), [], 18, 0, 0, 0, 0, 0),
  (⟨"ColumnVaultModel", "signAt", "(I)I"⟩, prog_13_method_32_code, 2, some (.int), [], 18, 1, 0, 0, 0, 0),
  (⟨"ColumnVaultModel", "opposite", "(I)LColumnVaultModel$Node;"⟩, prog_13_method_38_code, 4, some (.object "ColumnVaultModel$Node"), [], 18, 1, 0, 0, 0, 0),
  (⟨"ColumnVaultModel", "fails", "(II)V"⟩, prog_13_method_31_code, 3, none, [], 18, 2, 0, 0, 0, 0),
  (⟨"ColumnVaultModel", "brackets", "()LColumnVaultModel$Node;"⟩, prog_13_method_39_code, 2, some (.object "ColumnVaultModel$Node"), [], 18, 0, 0, 0, 0, 0),
  (⟨"ColumnVaultModel", "test", "()LColumnVaultModel$Node;"⟩, prog_13_method_42_code, 4, some (.object "ColumnVaultModel$Node"), [], 18, 0, 0, 0, 0, 0),
  (⟨"ColumnVaultModel", "isDigit", "(I)Z"⟩, prog_13_method_33_code, 1, some (.boolean), [], 18, 1, 0, 1, 99999, 0),
  (⟨"ColumnVaultModel", "sortOfTest", "()I"⟩, prog_13_method_41_code, 2, some (.int), [], 18, 0, 0, 0, 0, 0),
  (⟨"ColumnVaultModel", "isWord", "(Ljava/lang/String;)Z"⟩, prog_13_method_40_code, 3, some (.boolean), [], 18, 1, 0, 0, 0, 0),
  (⟨"ColumnVaultModel", "isLetter", "(I)Z"⟩, prog_13_method_34_code, 1, some (.boolean), [], 18, 1, 0, 1, 99999, 0),
  (⟨"ColumnVaultModel", "value", "(LColumnVaultModel$Node;)V"⟩, prog_13_method_44_code, 8, none, [], 18, 1, 0, 0, 0, 0),
  (⟨"ColumnVaultModel", "isValueNext", "()Z"⟩, prog_13_method_43_code, 2, some (.boolean), [], 18, 0, 0, 0, 0, 0),
  (⟨"java/lang/Long", "valueOf", "(J)Ljava/lang/Long;"⟩, prog_30_method_24_code, 3, some (.object "java/lang/Long"), [], 3, 1, 0, 1, 99999, 0),
  (⟨"java/lang/Long", "<init>", "(J)V"⟩, prog_30_method_26_code, 3, none, [], 3, 1, 0, 2, 99999, 0),
  (⟨"ColumnVaultModel$Node", "holds", "(LColumnVaultModel$Table;I)Z"⟩, prog_14_method_2_code, 6, some (.boolean), [], 16, 2, 0, 0, 0, 0)]
def zt_m5 : List zx_M := [
  (⟨"ColumnVaultModel$Node", "holdsTest", "(LColumnVaultModel$Table;I)Z"⟩, prog_14_method_4_code, 5, some (.boolean), [], 16, 2, 0, 0, 0, 0),
  (⟨"ColumnVaultModel$Node", "than", "(LColumnVaultModel$Table;II)I"⟩, prog_14_method_3_code, 4, some (.int), [], 16, 3, 0, 0, 0, 0),
  (⟨"java/lang/Long", "longValue", "()J"⟩, prog_30_method_31_code, 1, some (.long), [], 3, 0, 0, 0, 0, 0),
  (⟨"ColumnVaultModel", "turnChoice", "(I)I"⟩, prog_13_method_30_code, 5, some (.int), [], 18, 1, 0, 0, 0, 0),
  (⟨"ColumnVaultModel", "count", "(I)I"⟩, prog_13_method_46_code, 3, some (.int), [], 18, 1, 0, 0, 0, 0),
  (⟨"ColumnVaultModel$Node", "count", "(LColumnVaultModel$Table;)I"⟩, prog_14_method_5_code, 4, some (.int), [], 16, 1, 0, 0, 0, 0),
  (⟨"ColumnVaultModel", "reads", "(IZ)I"⟩, prog_13_method_47_code, 6, some (.int), [], 18, 2, 0, 0, 0, 0),
  (⟨"ColumnVaultModel$Node", "reads", "(LColumnVaultModel$Table;[ZZ)I"⟩, prog_14_method_7_code, 10, some (.int), [], 16, 3, 0, 0, 0, 0),
  (⟨"ColumnVaultModel$Node", "next", "(LColumnVaultModel$Table;[ZZ)I"⟩, prog_14_method_6_code, 8, some (.int), [], 16, 3, 0, 0, 0, 0),
  (⟨"ColumnVaultModel", "errorKind", "(I)I"⟩, prog_13_method_48_code, 3, some (.int), [], 18, 1, 0, 0, 0, 0),
  (⟨"ColumnVaultModel", "errorPlace", "(I)I"⟩, prog_13_method_49_code, 3, some (.int), [], 18, 1, 0, 0, 0, 0),
  (⟨"ColumnVaultModel", "type", "(J)I"⟩, prog_13_method_50_code, 6, some (.int), [], 18, 1, 0, 0, 0, 0),
  (⟨"ColumnVaultModel", "clearText", "()I"⟩, prog_13_method_51_code, 2, some (.int), [], 18, 0, 0, 0, 0, 0),
  (⟨"ColumnVaultModel", "example", "(I)I"⟩, prog_13_method_52_code, 4, some (.int), [], 18, 1, 0, 0, 0, 0),
  (⟨"ColumnVaultModel", "join", "(IIIII)I"⟩, prog_13_method_56_code, 12, some (.int), [], 18, 5, 0, 0, 0, 0),
  (⟨"ColumnVaultModel", "areColumns", "(IIII)Z"⟩, prog_13_method_53_code, 5, some (.boolean), [], 18, 4, 0, 0, 0, 0),
  (⟨"ColumnVaultModel", "areOfOneKind", "(IIII)Z"⟩, prog_13_method_54_code, 5, some (.boolean), [], 18, 4, 0, 0, 0, 0),
  (⟨"java/util/ArrayList", "clear", "()V"⟩, prog_45_method_40_code, 4, none, [], 4, 0, 0, 0, 99999, 0),
  (⟨"ColumnVaultModel", "arePartners", "(LColumnVaultModel$Table;IILColumnVaultModel$Table;II)Z"⟩, prog_13_method_55_code, 7, some (.boolean), [], 18, 6, 0, 0, 0, 0),
  (⟨"ColumnVaultModel", "pairAt", "(IZ)I"⟩, prog_13_method_57_code, 3, some (.int), [], 18, 2, 0, 0, 0, 0),
  (⟨"ColumnVaultModel", "joinErrors", "(IIII)I"⟩, prog_13_method_58_code, 11, some (.int), [], 18, 4, 0, 0, 0, 0),
  (⟨"ColumnVaultModel", "group", "(II)I"⟩, prog_13_method_60_code, 3, some (.int), [], 18, 2, 0, 0, 0, 0),
  (⟨"ColumnVaultModel", "grouped", "(LColumnVaultModel$Table;I)Ljava/util/List;"⟩, prog_13_method_59_code, 7, some (.object "java/util/List"), [], 18, 2, 0, 1, 99999, 0),
  (⟨"ColumnVaultModel$Table", "areAlike", "(III)Z"⟩, prog_15_method_15_code, 4, some (.boolean), [], 17, 3, 0, 0, 0, 0),
  (⟨"java/util/ArrayList", "add", "(ILjava/lang/Object;)V"⟩, prog_45_method_26_code, 5, none, [], 4, 2, 0, 0, 99999, 0),
  (⟨"java/util/ArrayList", "rangeCheckForAdd", "(I)V"⟩, prog_45_method_45_code, 2, none, [], 4, 1, 0, 0, 0, 0),
  (⟨"java/util/ArrayList", "outOfBoundsMsg", "(I)Ljava/lang/String;"⟩, prog_45_method_46_code, 2, some (.object "java/lang/String"), [], 4, 1, 0, 0, 0, 0),
  (⟨"java/lang/StringBuilder", "<init>", "()V"⟩, prog_36_method_1_code, 1, none, [], 1, 0, 0, 2, 99999, 0),
  (⟨"java/lang/AbstractStringBuilder", "<init>", "(I)V"⟩, prog_17_method_2_code, 2, none, [], 35, 1, 0, 2, 99999, 0),
  (⟨"java/lang/StringUTF16", "newBytesFor", "(I)[B"⟩, prog_38_method_2_code, 1, some (.array (.byte)), [], 27, 1, 0, 1, 99999, 0),
  (⟨"java/lang/StringUTF16", "newBytesLength", "(I)I"⟩, prog_38_method_3_code, 1, some (.int), [], 27, 1, 0, 1, 99999, 0),
  (⟨"java/lang/StringBuilder", "append", "(Ljava/lang/String;)Ljava/lang/StringBuilder;"⟩, prog_36_method_7_code, 2, some (.object "java/lang/StringBuilder"), [], 1, 1, 0, 0, 0, 0),
  (⟨"java/lang/AbstractStringBuilder", "append", "(Ljava/lang/String;)Ljava/lang/AbstractStringBuilder;"⟩, prog_17_method_22_code, 3, some (.object "java/lang/AbstractStringBuilder"), [], 35, 1, 0, 0, 99999, 0),
  (⟨"java/lang/AbstractStringBuilder", "appendNull", "()Ljava/lang/AbstractStringBuilder;"⟩, prog_17_method_26_code, 3, some (.object "java/lang/AbstractStringBuilder"), [], 35, 0, 0, 0, 99999, 0),
  (⟨"java/lang/AbstractStringBuilder", "ensureCapacityInternal", "(I)V"⟩, prog_17_method_9_code, 3, none, [], 35, 1, 0, 0, 99999, 0),
  (⟨"java/lang/AbstractStringBuilder", "newCapacity", "(I)I"⟩, prog_17_method_10_code, 6, some (.int), [], 35, 1, 0, 0, 99999, 0),
  (⟨"java/util/Arrays", "copyOf", "([BI)[B"⟩, prog_46_method_121_code, 3, some (.array (.byte)), [], 32, 2, 0, 1, 99999, 0),
  (⟨"java/lang/AbstractStringBuilder", "isLatin1", "()Z"⟩, prog_17_method_68_code, 1, some (.boolean), [], 35, 0, 0, 0, 99999, 0),
  (⟨"java/lang/StringUTF16", "putCharsAt", "([BICCCC)I"⟩, prog_38_method_81_code, 7, some (.int), [], 27, 6, 0, 1, 99999, 0),
  (⟨"java/lang/StringUTF16", "checkBoundsBeginEnd", "(II[B)V"⟩, prog_38_method_93_code, 3, none, [], 27, 3, 0, 1, 99999, 0),
  (⟨"java/lang/String", "checkBoundsBeginEnd", "(III)V"⟩, prog_35_method_158_code, 3, none, [], 0, 3, 0, 1, 99999, 0),
  (⟨"jdk/internal/util/Preconditions", "checkFromToIndex", "(IIILjava/util/function/BiFunction;)I"⟩, prog_54_method_12_code, 4, some (.int), [], 26, 4, 0, 1, 99999, 0),
  (⟨"java/lang/StringUTF16", "putChar", "([BII)V"⟩, prog_38_method_4_code, 3, none, [], 27, 3, 0, 1, 99999, 0),
  (⟨"java/lang/AbstractStringBuilder", "putStringAt", "(ILjava/lang/String;)V"⟩, prog_17_method_73_code, 3, none, [], 35, 2, 0, 0, 99999, 0),
  (⟨"java/lang/AbstractStringBuilder", "inflateIfNeededFor", "(Ljava/lang/String;)V"⟩, prog_17_method_71_code, 2, none, [], 35, 1, 0, 0, 99999, 0),
  (⟨"java/lang/AbstractStringBuilder", "inflate", "()V"⟩, prog_17_method_11_code, 2, none, [], 35, 0, 0, 0, 99999, 0),
  (⟨"java/lang/StringLatin1", "inflate", "([BI[BII)V"⟩, prog_37_method_50_code, 5, none, [], 25, 5, 0, 1, 99999, 0),
  (⟨"java/lang/StringUTF16", "inflate", "([BI[BII)V"⟩, prog_38_method_86_code, 6, none, [], 27, 5, 0, 1, 99999, 0),
  (⟨"java/lang/StringUTF16", "checkBoundsOffCount", "(II[B)V"⟩, prog_38_method_94_code, 3, none, [], 27, 3, 0, 1, 99999, 0),
  (⟨"java/lang/String", "checkBoundsOffCount", "(III)I"⟩, prog_35_method_157_code, 3, some (.int), [], 0, 3, 0, 1, 99999, 0),
  (⟨"jdk/internal/util/Preconditions", "checkFromIndexSize", "(IIILjava/util/function/BiFunction;)I"⟩, prog_54_method_13_code, 4, some (.int), [], 26, 4, 0, 1, 99999, 0),
  (⟨"java/lang/String", "getBytes", "([BIB)V"⟩, prog_35_method_147_code, 4, none, [], 0, 3, 0, 0, 0, 0),
  (⟨"java/lang/StringBuilder", "append", "(I)Ljava/lang/StringBuilder;"⟩, prog_36_method_15_code, 2, some (.object "java/lang/StringBuilder"), [], 1, 1, 0, 0, 0, 0),
  (⟨"java/lang/AbstractStringBuilder", "append", "(I)Ljava/lang/AbstractStringBuilder;"⟩, prog_17_method_32_code, 4, some (.object "java/lang/AbstractStringBuilder"), [], 35, 1, 0, 0, 99999, 0),
  (⟨"java/lang/Integer", "stringSize", "(I)I"⟩, prog_27_method_13_code, 4, some (.int), [], 2, 1, 0, 1, 99999, 0),
  (⟨"java/lang/Integer", "getChars", "(II[B)I"⟩, prog_27_method_12_code, 7, some (.int), [], 2, 3, 0, 1, 99999, 0),
  (⟨"java/lang/StringUTF16", "getChars", "(III[B)I"⟩, prog_38_method_77_code, 5, some (.int), [], 27, 4, 0, 1, 99999, 0),
  (⟨"java/lang/StringUTF16", "getChars", "(II[B)I"⟩, prog_38_method_89_code, 7, some (.int), [], 27, 3, 0, 1, 99999, 0),
  (⟨"java/lang/StringBuilder", "toString", "()Ljava/lang/String;"⟩, prog_36_method_42_code, 1, some (.object "java/lang/String"), [], 1, 0, 0, 0, 0, 0),
  (⟨"java/lang/String", "<init>", "(Ljava/lang/StringBuilder;)V"⟩, prog_35_method_53_code, 2, none, [], 0, 1, 0, 2, 99999, 0)]
def zt_m6 : List zx_M := [
  (⟨"java/lang/String", "<init>", "(Ljava/lang/AbstractStringBuilder;Ljava/lang/Void;)V"⟩, prog_35_method_150_code, 5, none, [], 0, 2, 0, 2, 99999, 0),
  (⟨"java/lang/AbstractStringBuilder", "getValue", "()[B"⟩, prog_17_method_64_code, 1, some (.array (.byte)), [], 35, 0, 0, 0, 99999, 0),
  (⟨"java/lang/StringBuilder", "length", "()I"⟩, prog_36_method_93_code, 1, some (.int), [], 1, 0, 0, 0, 99999, 0),
  (⟨"java/lang/AbstractStringBuilder", "length", "()I"⟩, prog_17_method_6_code, 1, some (.int), [], 35, 0, 0, 0, 99999, 0),
  (⟨"java/util/Arrays", "copyOfRange", "([BII)[B"⟩, prog_46_method_132_code, 3, some (.array (.byte)), [], 32, 3, 0, 1, 99999, 0),
  (⟨"java/util/Arrays", "copyOfRangeByte", "([BII)[B"⟩, prog_46_method_133_code, 5, some (.array (.byte)), [], 32, 3, 0, 1, 99999, 0),
  (⟨"java/util/Arrays", "checkLength", "(II)V"⟩, prog_46_method_131_code, 2, none, [], 32, 2, 0, 1, 99999, 0),
  (⟨"java/lang/StringUTF16", "compress", "([BII)[B"⟩, prog_38_method_17_code, 6, some (.array (.byte)), [], 27, 3, 0, 1, 99999, 0),
  (⟨"java/lang/StringUTF16", "compress", "([BI[BII)I"⟩, prog_38_method_22_code, 7, some (.int), [], 27, 5, 0, 1, 99999, 0),
  (⟨"java/lang/StringUTF16", "coderFromArrayLen", "([BI)B"⟩, prog_38_method_15_code, 2, some (.byte), [], 27, 2, 0, 1, 99999, 0),
  (⟨"ColumnVaultModel", "groupAt", "(II)J"⟩, prog_13_method_61_code, 4, some (.long), [], 18, 2, 0, 0, 0, 0),
  (⟨"ColumnVaultModel", "total", "(III)J"⟩, prog_13_method_67_code, 6, some (.long), [], 18, 3, 0, 0, 0, 0),
  (⟨"ColumnVaultModel", "chosenOf", "(LColumnVaultModel$Table;)Ljava/util/List;"⟩, prog_13_method_66_code, 4, some (.object "java/util/List"), [], 18, 1, 0, 1, 99999, 0),
  (⟨"ColumnVaultModel", "valuesOf", "(LColumnVaultModel$Table;ILjava/util/List;)Ljava/util/List;"⟩, prog_13_method_62_code, 7, some (.object "java/util/List"), [], 18, 3, 0, 1, 99999, 0),
  (⟨"ColumnVaultModel", "canTell", "(LColumnVaultModel$Table;II)Z"⟩, prog_13_method_64_code, 3, some (.boolean), [], 18, 3, 0, 1, 99999, 0),
  (⟨"ColumnVaultModel", "needsOne", "(I)Z"⟩, prog_13_method_65_code, 1, some (.boolean), [], 18, 1, 0, 1, 99999, 0),
  (⟨"java/util/ArrayList", "isEmpty", "()Z"⟩, prog_45_method_9_code, 1, some (.boolean), [], 4, 0, 0, 0, 99999, 0),
  (⟨"ColumnVaultModel", "told", "(Ljava/util/List;I)J"⟩, prog_13_method_63_code, 8, some (.long), [], 18, 2, 0, 1, 99999, 0),
  (⟨"ColumnVaultModel", "groupTotal", "(III)J"⟩, prog_13_method_68_code, 6, some (.long), [], 18, 3, 0, 0, 0, 0),
  (⟨"ColumnVaultModel", "running", "(III)J"⟩, prog_13_method_69_code, 9, some (.long), [], 18, 3, 0, 0, 0, 0),
  (⟨"ColumnVaultModel", "rank", "(IIII)I"⟩, prog_13_method_70_code, 10, some (.int), [], 18, 4, 0, 0, 0, 0),
  (⟨"ColumnVaultModel", "previous", "(III)I"⟩, prog_13_method_71_code, 6, some (.int), [], 18, 3, 0, 0, 0, 0),
  (⟨"ColumnVaultModel", "between", "(IIJJ)I"⟩, prog_13_method_73_code, 9, some (.int), [], 18, 4, 0, 0, 0, 0),
  (⟨"ColumnVaultModel", "within", "(LColumnVaultModel$Table;IJJ)I"⟩, prog_13_method_72_code, 9, some (.int), [], 18, 4, 0, 1, 99999, 0),
  (⟨"ColumnVaultModel", "nearest", "(IIJZ)J"⟩, prog_13_method_74_code, 15, some (.long), [], 18, 4, 0, 0, 0, 0),
  (⟨"ColumnVaultModel", "alike", "(III)I"⟩, prog_13_method_79_code, 13, some (.int), [], 18, 3, 0, 0, 0, 0),
  (⟨"ColumnVaultModel", "areOfKinds", "(LColumnVaultModel$Table;LColumnVaultModel$Table;)Z"⟩, prog_13_method_78_code, 4, some (.boolean), [], 18, 2, 0, 1, 99999, 0),
  (⟨"ColumnVaultModel", "chosenRows", "(LColumnVaultModel$Table;Z)Ljava/util/List;"⟩, prog_13_method_77_code, 5, some (.object "java/util/List"), [], 18, 2, 0, 1, 99999, 0),
  (⟨"ColumnVaultModel", "find", "(Ljava/util/List;[JI)I"⟩, prog_13_method_76_code, 4, some (.int), [], 18, 3, 0, 1, 99999, 0),
  (⟨"ColumnVaultModel", "areSame", "([J[JI)Z"⟩, prog_13_method_75_code, 4, some (.boolean), [], 18, 3, 0, 1, 99999, 0),
  (⟨"ColumnVaultModel", "errors", "(I)I"⟩, prog_13_method_83_code, 6, some (.int), [], 18, 1, 0, 0, 0, 0),
  (⟨"ColumnVaultModel", "failsOfOrder", "(LColumnVaultModel$Table;II)I"⟩, prog_13_method_80_code, 10, some (.int), [], 18, 3, 0, 1, 99999, 0),
  (⟨"ColumnVaultModel", "failsOfGroups", "(LColumnVaultModel$Table;I)I"⟩, prog_13_method_81_code, 7, some (.int), [], 18, 2, 0, 1, 99999, 0),
  (⟨"ColumnVaultModel", "failsOfRanges", "(LColumnVaultModel$Table;I)I"⟩, prog_13_method_82_code, 13, some (.int), [], 18, 2, 0, 1, 99999, 0),
  (⟨"ColumnVaultModel", "meanOf", "(II)D"⟩, prog_13_method_84_code, 5, some (.double), [], 18, 2, 0, 0, 0, 0),
  (⟨"ColumnVaultModel", "chosenShare", "(I)F"⟩, prog_13_method_85_code, 3, some (.float), [], 18, 1, 0, 0, 0, 0)]
def zt_m : List zx_M := zt_m0 ++ (zt_m1 ++ (zt_m2 ++ (zt_m3 ++ (zt_m4 ++ (zt_m5 ++ (zt_m6))))))
def zx_lim : Nat := 1000000
/-- cells that stood before, by place behind zx_lim + 1: the type (of an array its component), what it holds (.retAddr 0: not said) -/
def zt_ext (j : Nat) : Option (FieldType × ((Nat × vp_A) ⊕ (Nat × List Value))) :=
  if j = 0 then some (.object "java/lang/Object", .inl (0, 0, .inr (.inr (.inr (.inr (fun _ => none)))))) else
  if j = 1 ∨ j = 2 then some (.object "java/lang/Boolean", .inr (999, [])) else
  if j = 3 then some (.object "java/lang/Integer", .inl (0, 256, .inr (.inr (.inr (.inr (fun i => some (zx_lim + 1 + (10 + i)))))))) else
  if j = 4 then some (.object "java/lang/Long", .inl (0, 256, .inr (.inr (.inr (.inr (fun i => some (zx_lim + 1 + (300 + i)))))))) else
  if 10 ≤ j ∧ j < 266 then some (.object "java/lang/Integer", .inr (2, [.int (Int32.ofNat (j - 10) - 128)])) else
  if 300 ≤ j ∧ j < 556 then some (.object "java/lang/Long", .inr (3, [.long (Int64.ofNat (j - 300) - 128)])) else
  if j = 600 then some (.object "java/lang/String", .inr (0, [.ref (zx_lim + 1 + 601), .int 0, .retAddr 0, .retAddr 0])) else
  if j = 601 then some (.byte, .inl (0, 31, .inl (fun i => ([35, 48, 32, 60, 32, 53, 32, 38, 32, 33, 40, 35, 49, 32, 61, 32, 98, 32, 124, 32, 35, 49, 32, 109, 105, 115, 115, 105, 110, 103, 41] : List Int32).getD i 0))) else
  if j = 602 then some (.object "java/lang/String", .inr (0, [.ref (zx_lim + 1 + 603), .int 0, .retAddr 0, .retAddr 0])) else
  if j = 603 then some (.byte, .inl (0, 35, .inl (fun i => ([35, 48, 32, 116, 111, 32, 45, 51, 32, 51, 32, 124, 32, 35, 48, 32, 105, 110, 32, 55, 32, 57, 32, 49, 49, 32, 38, 32, 33, 35, 48, 32, 61, 32, 57] : List Int32).getD i 0))) else
  if j = 604 then some (.object "java/lang/String", .inr (0, [.ref (zx_lim + 1 + 605), .int 0, .retAddr 0, .retAddr 0])) else
  if j = 605 then some (.byte, .inl (0, 47, .inl (fun i => ([33, 40, 35, 48, 32, 109, 105, 115, 115, 105, 110, 103, 41, 32, 38, 32, 40, 35, 48, 32, 62, 32, 50, 32, 124, 32, 35, 48, 32, 60, 32, 45, 50, 41, 32, 38, 32, 35, 48, 32, 116, 111, 32, 45, 57, 32, 57] : List Int32).getD i 0))) else
  if j = 606 then some (.object "java/lang/String", .inr (0, [.ref (zx_lim + 1 + 607), .int 0, .retAddr 0, .retAddr 0])) else
  if j = 607 then some (.byte, .inl (0, 2, .inl (fun i => ([116, 111] : List Int32).getD i 0))) else
  if j = 608 then some (.object "java/lang/String", .inr (0, [.ref (zx_lim + 1 + 609), .int 0, .retAddr 0, .retAddr 0])) else
  if j = 609 then some (.byte, .inl (0, 2, .inl (fun i => ([105, 110] : List Int32).getD i 0))) else
  if j = 610 then some (.object "java/lang/String", .inr (0, [.ref (zx_lim + 1 + 611), .int 0, .retAddr 0, .retAddr 0])) else
  if j = 611 then some (.byte, .inl (0, 7, .inl (fun i => ([109, 105, 115, 115, 105, 110, 103] : List Int32).getD i 0))) else
  if j = 612 then some (.object "java/lang/String", .inr (0, [.ref (zx_lim + 1 + 613), .int 0, .retAddr 0, .retAddr 0])) else
  if j = 613 then some (.byte, .inl (0, 31, .inl (fun i => ([35, 48, 32, 60, 32, 53, 32, 38, 32, 33, 40, 35, 49, 32, 61, 32, 98, 32, 124, 32, 35, 49, 32, 109, 105, 115, 115, 105, 110, 103, 41] : List Int32).getD i 0))) else
  if j = 614 then some (.object "java/lang/String", .inr (0, [.ref (zx_lim + 1 + 615), .int 0, .retAddr 0, .retAddr 0])) else
  if j = 615 then some (.byte, .inl (0, 35, .inl (fun i => ([35, 48, 32, 116, 111, 32, 45, 51, 32, 51, 32, 124, 32, 35, 48, 32, 105, 110, 32, 55, 32, 57, 32, 49, 49, 32, 38, 32, 33, 35, 48, 32, 61, 32, 57] : List Int32).getD i 0))) else
  if j = 616 then some (.object "java/lang/String", .inr (0, [.ref (zx_lim + 1 + 617), .int 0, .retAddr 0, .retAddr 0])) else
  if j = 617 then some (.byte, .inl (0, 47, .inl (fun i => ([33, 40, 35, 48, 32, 109, 105, 115, 115, 105, 110, 103, 41, 32, 38, 32, 40, 35, 48, 32, 62, 32, 50, 32, 124, 32, 35, 48, 32, 60, 32, 45, 50, 41, 32, 38, 32, 35, 48, 32, 116, 111, 32, 45, 57, 32, 57] : List Int32).getD i 0))) else
  none
/-- texts that are read: class, place in its pool, text, place among the cells that stood before -/
def zt_str : List (String × Nat × String × Nat) := [("ColumnVault", 231, "#0 < 5 & !(#1 = b | #1 missing)", 600), ("ColumnVault", 236, "#0 to -3 3 | #0 in 7 9 11 & !#0 = 9", 602), ("ColumnVault", 238, "!(#0 missing) & (#0 > 2 | #0 < -2) & #0 to -9 9", 604), ("ColumnVaultModel", 280, "to", 606), ("ColumnVaultModel", 286, "in", 608), ("ColumnVaultModel", 287, "missing", 610), ("ColumnVaultModel", 335, "#0 < 5 & !(#1 = b | #1 missing)", 612), ("ColumnVaultModel", 337, "#0 to -3 3 | #0 in 7 9 11 & !#0 = 9", 614), ("ColumnVaultModel", 339, "!(#0 missing) & (#0 > 2 | #0 < -2) & #0 to -9 9", 616)]
/-- static fields -/
def zt_stn : List (String × String × String) := [("java/util/ArrayList", "DEFAULTCAPACITY_EMPTY_ELEMENTDATA", "[Ljava/lang/Object;"), ("java/lang/Boolean", "TRUE", "Ljava/lang/Boolean;"), ("java/lang/Boolean", "FALSE", "Ljava/lang/Boolean;"), ("java/lang/Integer$IntegerCache", "high", "I"), ("java/lang/Integer$IntegerCache", "cache", "[Ljava/lang/Integer;"), ("java/lang/Long$LongCache", "cache", "[Ljava/lang/Long;"), ("java/lang/String", "COMPACT_STRINGS", "Z"), ("jdk/internal/util/Preconditions", "SIOOBE_FORMATTER", "Ljava/util/function/BiFunction;")]
def zt_stv (nf : Bool) : List Value := [.ref (zx_lim + 1), .ref (zx_lim + 2), .ref (zx_lim + 3), .int 127, .ref (zx_lim + 4), .ref (zx_lim + 5), .int 1, if nf then .null else .ref (zx_lim + 6)]
/-- the place of Object[] among the array types -/
def zt_objT : Nat := 5
def zt_pl0 : List (Nat × Nat × Nat × Nat × Nat) := [(1, 10, 0, 0, 10005), (9, 0, 0, 0, 10047), (15, 0, 0, 1, 10048), (38, 14, 6, 0, 4163), (47, 4, 369, 0, 10044), (54, 4, 364, 0, 10020), (106, 4, 346, 0, 9206), (212, 17, 0, 0, 9205), (335, 6, 129, 0, 4159), (489, 8, 360, 0, 10002), (492, 6, 131, 0, 4169), (495, 4, 132, 0, 4173), (498, 4, 135, 0, 4184), (1048, 0, 1, 2, 9109), (1051, 4, 367, 0, 10037), (1053, 14, 7, 0, 4179), (1059, 4, 134, 0, 4181), (1062, 4, 341, 0, 9166), (1065, 4, 350, 0, 9198)]
def zt_lc0 : List (Nat × Int64 × Nat) := []
def zt_pl1 : List (Nat × Nat × Nat × Nat × Nat) := [(1, 8, 328, 0, 9095), (18, 2, 0, 999, 9237), (137, 8, 359, 0, 9239)]
def zt_lc1 : List (Nat × Int64 × Nat) := []
def zt_pl2 : List (Nat × Nat × Nat × Nat × Nat) := [(1, 2, 2, 999, 7102), (191, 14, 3, 0, 7098), (195, 14, 4, 0, 7100), (199, 8, 240, 0, 7104), (202, 8, 241, 0, 7107), (205, 0, 2, 0, 7111)]
def zt_lc2 : List (Nat × Int64 × Nat) := []
def zt_pl3 : List (Nat × Nat × Nat × Nat × Nat) := [(1, 2, 3, 999, 8170), (234, 14, 5, 0, 8168), (240, 8, 298, 0, 8172), (270, 8, 241, 0, 8175), (273, 0, 3, 0, 8176)]
def zt_lc3 : List (Nat × Int64 × Nat) := [(314, 6148914691236517205, 3014), (316, 3689348814741910323, 3015), (318, 1085102592571150095, 3016), (230, -128, 8166), (232, 127, 8167)]
def zt_pl4 : List (Nat × Nat × Nat × Nat × Nat) := [(1, 8, 217, 0, 6114), (7, 2, 999, 5, 7022), (9, 0, 4, 1, 6123), (20, 2, 1, 999, 9090), (22, 8, 327, 0, 9092), (25, 6, 331, 0, 9121), (29, 6, 352, 0, 9207), (32, 6, 358, 0, 9233), (39, 14, 0, 0, 6121), (48, 0, 4, 2, 6124), (63, 0, 4, 0, 6126), (66, 4, 231, 0, 6220), (69, 6, 228, 0, 6208), (73, 4, 229, 0, 6212), (79, 16, 0, 0, 7021), (112, 17, 0, 0, 7134), (118, 4, 223, 0, 6182), (123, 6, 224, 0, 6186), (129, 6, 227, 0, 6204), (131, 6, 226, 0, 6200), (135, 6, 325, 0, 9081), (144, 6, 244, 0, 7130), (187, 2, 19, 999, 9085), (198, 6, 326, 0, 9086), (201, 13, 0, 0, 9120), (203, 13, 0, 0, 9232)]
def zt_lc4 : List (Nat × Int64 × Nat) := []
def zt_pl5 : List (Nat × Nat × Nat × Nat × Nat) := [(3, 10, 0, 0, 1188), (9, 2, 13, 0, 1189), (11, 9, 3, 0, 1190), (12, 0, 5, 0, 1193), (18, 2, 8, 999, 1191), (20, 9, 7, 0, 1192), (21, 0, 5, 1, 1194), (25, 0, 5, 2, 1195), (29, 1, 13, 3, 1067), (33, 6, 203, 0, 6036), (37, 6, 205, 0, 6052), (41, 6, 207, 0, 6065), (44, 6, 17, 0, 6040), (48, 6, 60, 0, 6041), (52, 1, 13, 4, 1073), (55, 6, 63, 0, 6042), (59, 6, 204, 0, 6043), (63, 6, 182, 0, 6050), (67, 6, 91, 0, 6051), (71, 6, 37, 0, 6047), (75, 6, 69, 0, 6048), (78, 5, 61, 0, 6049), (82, 6, 161, 0, 6056), (86, 1, 8, 4, 1170), (89, 6, 169, 0, 6057), (92, 4, 49, 0, 6058), (98, 1, 13, 5, 1079), (102, 6, 29, 0, 6059), (105, 6, 206, 0, 6060), (108, 6, 175, 0, 6064), (112, 1, 8, 0, 1164), (117, 6, 168, 0, 6070), (120, 6, 52, 0, 6071), (128, 6, 208, 0, 6074)]
def zt_lc5 : List (Nat × Int64 × Nat) := [(115, -8999999999, 6069), (124, -9000000000, 6072), (126, 9223372036854775807, 6073)]
def zt_pl6 : List (Nat × Nat × Nat × Nat × Nat) := [(3, 10, 0, 0, 3126), (9, 0, 6, 2, 3129), (15, 0, 6, 3, 3130), (19, 0, 6, 4, 3131), (22, 0, 6, 5, 3132), (25, 0, 6, 6, 3134), (28, 0, 6, 0, 3127), (32, 0, 6, 1, 3128), (36, 6, 79, 0, 3155), (42, 6, 88, 0, 3195), (46, 6, 94, 0, 4009), (50, 6, 95, 0, 4013), (53, 6, 96, 0, 4017), (57, 2, 11, 999, 3199), (59, 8, 89, 0, 3201), (62, 6, 90, 0, 3233), (65, 6, 106, 0, 4069), (69, 6, 93, 0, 4005), (73, 6, 91, 0, 3237), (79, 6, 92, 0, 4001), (82, 6, 97, 0, 4021), (85, 6, 98, 0, 4025), (89, 6, 105, 0, 4064), (93, 6, 99, 0, 4029), (97, 6, 20, 0, 4033), (100, 6, 100, 0, 4034), (103, 6, 29, 0, 4042), (106, 6, 101, 0, 4043), (110, 6, 104, 0, 4057), (122, 6, 102, 0, 4047), (126, 6, 103, 0, 4051), (131, 5, 38, 0, 4056), (137, 6, 52, 0, 4062)]
def zt_lc6 : List (Nat × Int64 × Nat) := [(114, -1, 4038), (116, 29807, 4039), (118, 26990, 4040), (120, 30796717039906407, 4041), (129, -9000000000, 4055), (135, -8999999999, 4061), (141, 9223372036854775807, 4063)]
def zt_pl7 : List (Nat × Nat × Nat × Nat × Nat) := [(3, 10, 0, 0, 1109), (9, 0, 7, 0, 1110), (15, 0, 7, 1, 1111), (21, 6, 124, 0, 4139), (25, 6, 128, 0, 4155), (30, 6, 130, 0, 4165)]
def zt_lc7 : List (Nat × Int64 × Nat) := [(19, 255, 4138)]
def zt_pl8 : List (Nat × Nat × Nat × Nat × Nat) := [(3, 10, 0, 0, 1160), (9, 2, 13, 0, 1161), (11, 9, 3, 0, 1162), (12, 0, 8, 0, 1163), (18, 0, 8, 1, 1166), (22, 0, 8, 2, 1167), (25, 0, 8, 3, 1168), (29, 0, 8, 4, 1169), (32, 6, 17, 0, 5085), (36, 1, 13, 4, 1071), (39, 1, 13, 5, 1078), (43, 5, 72, 0, 5086), (47, 6, 162, 0, 5087), (51, 6, 37, 0, 5091), (55, 5, 61, 0, 5092), (59, 6, 163, 0, 5093), (65, 6, 29, 0, 5113), (69, 6, 168, 0, 5114), (73, 5, 46, 0, 5119)]
def zt_lc8 : List (Nat × Int64 × Nat) := [(63, -9000000000, 5118)]
def zt_pl9 : List (Nat × Nat × Nat × Nat × Nat) := [(3, 10, 0, 0, 1055), (9, 2, 13, 0, 1056), (11, 0, 9, 0, 1096), (17, 0, 9, 1, 1097), (21, 9, 3, 0, 1059), (22, 6, 14, 0, 2117), (26, 6, 17, 0, 2118)]
def zt_lc9 : List (Nat × Int64 × Nat) := []
def zt_pl10 : List (Nat × Nat × Nat × Nat × Nat) := [(3, 10, 0, 0, 5018), (9, 0, 10, 0, 5019), (15, 0, 10, 1, 5020), (19, 0, 10, 2, 5021), (22, 0, 10, 3, 5022), (25, 1, 13, 5, 1076), (31, 6, 152, 0, 5036), (35, 6, 154, 0, 5047), (39, 6, 156, 0, 5058), (43, 6, 158, 0, 5068), (49, 4, 49, 0, 5073), (55, 6, 37, 0, 5051), (59, 6, 21, 0, 5052), (63, 6, 155, 0, 5053), (67, 1, 13, 4, 1074), (72, 5, 72, 0, 5063), (76, 6, 157, 0, 5064), (80, 16, 0, 0, 5057)]
def zt_lc10 : List (Nat × Int64 × Nat) := [(70, -9000000000, 5062), (47, -1, 5072)]
def zt_pl11 : List (Nat × Nat × Nat × Nat × Nat) := [(3, 10, 0, 0, 3204), (9, 0, 11, 2, 3209), (15, 0, 11, 3, 3211), (18, 0, 11, 4, 3212), (21, 0, 11, 5, 3214), (24, 0, 11, 6, 3216), (27, 0, 11, 0, 3205), (31, 0, 11, 1, 3207), (37, 6, 107, 0, 4073), (41, 6, 108, 0, 4077), (45, 4, 49, 0, 4081)]
def zt_lc11 : List (Nat × Int64 × Nat) := [(35, -1, 4068)]
def zt_pl12 : List (Nat × Nat × Nat × Nat × Nat) := [(3, 10, 0, 0, 1143), (9, 0, 12, 0, 1144), (15, 0, 12, 1, 1145), (18, 0, 12, 2, 1146), (22, 1, 13, 4, 1070), (27, 1, 13, 5, 1077), (31, 5, 72, 0, 4222), (35, 6, 37, 0, 4223), (41, 6, 51, 0, 4225), (45, 6, 143, 0, 4226), (49, 6, 144, 0, 4230)]
def zt_lc12 : List (Nat × Int64 × Nat) := [(39, -9000000000, 4224)]
def zt_pl13 : List (Nat × Nat × Nat × Nat × Nat) := [(3, 10, 0, 0, 1062), (9, 0, 13, 0, 1063), (15, 0, 13, 1, 1064), (19, 0, 13, 2, 1065), (22, 0, 13, 3, 1066), (26, 0, 13, 4, 1069), (29, 0, 13, 5, 1075), (33, 17, 0, 0, 2122), (39, 6, 29, 0, 3000), (43, 6, 20, 0, 2134), (49, 6, 21, 0, 2138), (52, 6, 37, 0, 2223), (56, 5, 46, 0, 3001), (60, 6, 51, 0, 3021), (63, 4, 49, 0, 3029), (69, 6, 19, 0, 2130), (73, 6, 42, 0, 2224), (79, 6, 63, 0, 3068), (82, 5, 61, 0, 3061), (86, 5, 72, 0, 5046), (94, 6, 52, 0, 3025), (98, 6, 153, 0, 5040), (102, 6, 197, 0, 6011), (106, 6, 196, 0, 6007), (110, 6, 198, 0, 6023)]
def zt_lc13 : List (Nat × Int64 × Nat) := [(47, -9000000000, 2129), (77, -1, 2228), (90, -8999999999, 5044), (92, 9223372036854775807, 5045)]
def zt_pl14 : List (Nat × Nat × Nat × Nat × Nat) := [(3, 10, 0, 0, 1124), (9, 0, 14, 0, 1125), (15, 0, 14, 1, 1126), (18, 0, 14, 2, 1127), (22, 0, 14, 3, 1128), (26, 1, 7, 1, 1112), (31, 6, 80, 0, 3159), (35, 6, 81, 0, 3163), (39, 16, 0, 0, 3192), (47, 6, 82, 0, 3168), (51, 5, 83, 0, 3172), (55, 5, 36, 0, 3175), (58, 6, 84, 0, 3176), (61, 6, 85, 0, 3181), (72, 16, 0, 2, 3188)]
def zt_lc14 : List (Nat × Int64 × Nat) := [(45, -1, 3167), (64, -9000000000, 3180), (66, 10, 3185), (68, 48, 3186), (70, 1000001, 3187), (76, 1000000, 3191)]
def zt_pl15 : List (Nat × Nat × Nat × Nat × Nat) := [(5, 10, 0, 0, 1047), (11, 2, 9, 999, 1050), (13, 8, 2, 0, 1052), (14, 0, 15, 0, 1203), (18, 2, 7, 999, 1104), (20, 9, 4, 0, 1106), (21, 0, 15, 1, 1204), (25, 2, 14, 999, 1119), (27, 9, 5, 0, 1121), (28, 0, 15, 2, 1205), (32, 2, 12, 999, 1138), (34, 9, 6, 0, 1140), (35, 0, 15, 3, 1206), (39, 2, 8, 999, 1155), (41, 9, 7, 0, 1157), (42, 0, 15, 4, 1207), (46, 2, 5, 999, 1183), (48, 9, 8, 0, 1185), (49, 0, 15, 5, 1208), (53, 6, 13, 0, 2000), (57, 2, 20, 999, 2077), (59, 13, 0, 0, 2086), (64, 1, 13, 3, 1068), (70, 2, 21, 999, 2093), (72, 13, 0, 0, 2102), (75, 6, 15, 0, 2109), (78, 6, 18, 0, 2125), (82, 1, 13, 4, 1072), (85, 13, 0, 0, 2149), (87, 6, 24, 0, 2150), (91, 6, 27, 0, 2161), (95, 6, 29, 0, 2170), (98, 4, 30, 0, 2174), (102, 13, 0, 0, 2179), (104, 6, 19, 0, 2180), (108, 4, 33, 0, 2188), (114, 4, 34, 0, 2194), (118, 6, 37, 0, 2205), (122, 4, 38, 0, 2209), (126, 6, 41, 0, 2219), (130, 6, 45, 0, 2236), (133, 1, 13, 5, 1080), (137, 4, 49, 0, 3011), (141, 6, 50, 0, 3017), (144, 13, 0, 0, 3030), (146, 1, 9, 1, 1098), (149, 6, 57, 0, 3045), (153, 2, 19, 999, 2008), (155, 13, 0, 0, 3049), (158, 6, 16, 0, 2113), (161, 6, 60, 0, 3057), (165, 6, 62, 0, 3064), (169, 4, 66, 0, 3079), (172, 6, 63, 0, 3083), (175, 6, 69, 0, 3091), (178, 4, 72, 0, 3102), (182, 13, 0, 0, 3112), (184, 6, 75, 0, 3113), (188, 1, 11, 1, 3208), (195, 6, 91, 0, 4091), (199, 4, 115, 0, 4106), (203, 6, 76, 0, 3117), (207, 6, 78, 0, 3151), (208, 2, 6, 999, 3121), (213, 1, 6, 5, 3133), (216, 1, 6, 6, 3135), (219, 1, 7, 1, 1113), (222, 4, 122, 0, 4130), (225, 13, 0, 0, 4133), (227, 6, 123, 0, 4134), (231, 13, 600, 1, 4150), (233, 6, 127, 0, 4151), (236, 13, 602, 1, 4203), (238, 13, 604, 1, 4204), (240, 13, 0, 0, 4205), (242, 4, 141, 0, 4213), (246, 13, 0, 0, 4217), (248, 6, 142, 0, 4218), (252, 1, 12, 2, 1147), (255, 13, 0, 0, 5001), (257, 6, 147, 0, 5002), (261, 2, 10, 999, 5013), (263, 8, 150, 0, 5015), (266, 6, 151, 0, 5032), (269, 6, 161, 0, 5081), (271, 1, 8, 4, 1171), (272, 6, 166, 0, 5104), (275, 6, 167, 0, 5109), (279, 6, 169, 0, 5120), (282, 1, 8, 0, 1165), (286, 6, 170, 0, 5124), (289, 6, 171, 0, 5128), (292, 13, 0, 0, 5132), (294, 4, 174, 0, 5141), (298, 4, 28, 0, 2165), (301, 4, 181, 0, 5185), (304, 6, 182, 0, 5189), (307, 6, 175, 0, 5146), (310, 2, 22, 999, 5155), (312, 13, 0, 0, 5200), (315, 6, 51, 0, 5201), (320, 6, 52, 0, 5203), (324, 6, 191, 0, 5225), (328, 13, 0, 0, 5229), (330, 4, 46, 0, 5230), (333, 6, 194, 0, 5238), (337, 13, 0, 0, 6002), (339, 6, 195, 0, 6003), (342, 6, 198, 0, 6015), (345, 6, 199, 0, 6019), (348, 13, 0, 0, 6024), (350, 6, 202, 0, 6032), (353, 6, 153, 0, 5145), (356, 6, 14, 0, 2004), (359, 13, 0, 0, 2050), (361, 8, 77, 0, 3123), (364, 13, 0, 0, 4082), (366, 13, 0, 0, 5108), (368, 6, 20, 0, 2168), (371, 13, 0, 0, 2169), (373, 6, 21, 0, 2191), (376, 13, 0, 0, 2192), (378, 13, 0, 0, 3082), (380, 4, 35, 0, 2197), (383, 13, 0, 0, 2204), (385, 13, 0, 0, 5188), (387, 13, 0, 0, 4216), (395, 4, 36, 0, 2201), (398, 13, 0, 0, 5144), (400, 6, 152, 0, 5150), (404, 6, 176, 0, 5151), (408, 13, 0, 0, 5164), (410, 1, 11, 0, 3206), (413, 1, 11, 5, 3215), (417, 1, 11, 2, 3210), (420, 1, 11, 6, 3217), (423, 1, 11, 4, 3213)]
def zt_lc15 : List (Nat × Int64 × Nat) := [(389, -1000000, 2177), (391, 1000000, 2178), (112, -9000000000, 2193), (393, 255, 2200), (193, -1, 4083), (318, -8999999999, 5202)]
def zt_pl16 : List (Nat × Nat × Nat × Nat × Nat) := [(3, 10, 0, 0, 8083), (9, 2, 4, 999, 8084), (11, 8, 216, 0, 8085), (12, 0, 16, 1, 8088), (13, 2, 16, 999, 8205), (18, 0, 16, 3, 8092), (21, 0, 16, 0, 8086), (25, 6, 300, 0, 8184), (29, 11, 222, 1, 8196), (35, 6, 299, 0, 8206), (38, 11, 221, 0, 8204), (42, 0, 16, 2, 8090), (45, 6, 251, 0, 8193), (51, 6, 257, 0, 8194), (55, 2, 3, 999, 8197), (57, 6, 302, 0, 8198), (61, 5, 275, 0, 8202), (65, 6, 268, 0, 8188), (69, 6, 301, 0, 8189), (73, 6, 246, 0, 8224), (76, 6, 305, 0, 8237), (80, 6, 308, 0, 8233), (84, 6, 307, 0, 8238)]
def zt_lc16 : List (Nat × Int64 × Nat) := []
def zt_pl17 : List (Nat × Nat × Nat × Nat × Nat) := [(3, 10, 0, 0, 6108), (9, 2, 4, 999, 6109), (11, 8, 216, 0, 6111), (12, 0, 17, 0, 6135), (13, 2, 17, 4, 6161), (18, 0, 17, 1, 6137), (21, 0, 17, 2, 6139), (24, 0, 17, 3, 6141), (27, 8, 215, 0, 6162), (28, 11, 221, 0, 6164), (34, 11, 222, 1, 6174), (38, 2, 2, 999, 6190), (40, 11, 225, 2, 6192), (44, 18, 2, 0, 7023), (46, 19, 0, 0, 7024), (48, 6, 257, 0, 8016), (54, 6, 252, 0, 7174), (57, 6, 260, 0, 7214), (61, 4, 239, 0, 7149), (65, 4, 248, 0, 7150), (68, 11, 243, 3, 7213), (71, 6, 261, 0, 7218), (75, 11, 262, 4, 7223), (79, 6, 246, 0, 8004), (81, 6, 266, 0, 8005), (85, 6, 268, 0, 8041), (89, 6, 251, 0, 8042), (92, 5, 275, 0, 8043), (96, 6, 274, 0, 8037)]
def zt_lc17 : List (Nat × Int64 × Nat) := [(52, -9000000000, 7148)]
def zt_pl18 : List (Nat × Nat × Nat × Nat × Nat) := [(3, 0, 18, 0, 7027), (13, 4, 236, 0, 7084), (23, 4, 256, 0, 7193), (29, 4, 276, 0, 8046), (33, 10, 0, 0, 6101), (39, 2, 17, 4, 6102), (41, 9, 215, 0, 6105), (42, 0, 18, 1, 7028), (46, 2, 4, 999, 6152), (48, 8, 216, 0, 6153), (49, 0, 18, 2, 7029), (53, 0, 18, 4, 7031), (57, 0, 18, 12, 7039), (60, 0, 18, 13, 7040), (64, 0, 18, 15, 7042), (67, 4, 219, 0, 6154), (71, 11, 225, 2, 7026), (72, 2, 999, 999, 9066), (77, 6, 220, 0, 6157), (81, 0, 18, 3, 7030), (84, 11, 221, 0, 7120), (88, 11, 243, 3, 7122), (92, 18, 4, 0, 7135), (95, 4, 235, 0, 7080), (99, 6, 237, 0, 7087), (102, 6, 246, 0, 7140), (105, 6, 238, 0, 7091), (109, 1, 17, 0, 6136), (112, 4, 239, 0, 7095), (113, 2, 2, 999, 8054), (118, 6, 242, 0, 7115), (122, 6, 247, 0, 7144), (125, 6, 250, 0, 7161), (135, 6, 251, 0, 7170), (138, 1, 17, 1, 6138), (140, 11, 222, 1, 7179), (143, 18, 2, 0, 7180), (145, 6, 254, 0, 7185), (150, 4, 255, 0, 7190), (154, 6, 257, 0, 7200), (158, 6, 259, 0, 7208), (161, 6, 268, 0, 8012), (166, 6, 265, 0, 8000), (169, 4, 267, 0, 8009), (173, 6, 273, 0, 8033), (177, 1, 17, 2, 6140), (180, 6, 252, 0, 8055), (183, 6, 261, 0, 8060), (186, 6, 266, 0, 8065), (189, 6, 281, 0, 8070), (193, 6, 299, 0, 8180), (194, 2, 16, 999, 8078), (199, 1, 17, 3, 6142), (202, 4, 248, 0, 8207), (203, 19, 0, 0, 8210), (207, 11, 262, 4, 8209), (211, 6, 260, 0, 8211), (215, 0, 18, 9, 7036), (218, 0, 18, 10, 7037), (221, 0, 18, 5, 7032), (228, 0, 18, 6, 7033), (231, 6, 286, 0, 8111), (234, 0, 18, 7, 7034), (237, 8, 283, 0, 8080), (239, 1, 16, 1, 8089), (242, 6, 282, 0, 8074), (245, 6, 284, 0, 8103), (248, 6, 285, 0, 8107), (251, 6, 287, 0, 8115), (254, 6, 289, 0, 8123), (258, 6, 290, 0, 8127), (261, 6, 288, 0, 8119), (265, 0, 18, 8, 7035), (268, 6, 128, 0, 8145), (273, 6, 130, 0, 8146), (277, 4, 294, 0, 8147), (280, 13, 606, 1, 8140), (282, 6, 293, 0, 8141), (286, 13, 608, 1, 8150), (287, 13, 610, 1, 8151), (288, 4, 291, 0, 8131), (291, 0, 18, 11, 7038), (294, 6, 292, 0, 8136), (297, 1, 16, 2, 8091), (300, 1, 16, 0, 8087), (302, 6, 295, 0, 8152), (305, 6, 296, 0, 8156), (312, 16, 0, 2, 8162), (318, 1, 16, 3, 8093), (321, 4, 297, 0, 8163), (322, 2, 3, 999, 10073), (326, 7, 305, 0, 8220), (329, 6, 307, 0, 8229), (335, 13, 612, 1, 9021), (337, 13, 614, 1, 9022), (339, 13, 616, 1, 9023), (341, 6, 315, 0, 9028), (345, 6, 316, 0, 9032), (348, 11, 317, 5, 9037), (351, 6, 318, 0, 9045), (355, 18, 1, 0, 9053), (356, 4, 275, 0, 9058), (360, 6, 323, 0, 9067), (364, 7, 274, 0, 9071), (368, 11, 324, 6, 9073), (371, 0, 18, 14, 7041), (374, 4, 322, 0, 9063), (378, 6, 302, 0, 10074), (386, 4, 372, 0, 10067), (390, 4, 373, 0, 10070), (394, 4, 374, 0, 10075), (398, 4, 375, 0, 10079), (401, 11, 376, 7, 10084), (404, 4, 377, 0, 10092), (408, 4, 383, 0, 10115), (412, 4, 389, 0, 10135), (416, 4, 388, 0, 10132), (420, 4, 386, 0, 10126), (424, 4, 387, 0, 10129), (427, 16, 0, 0, 10151), (431, 4, 391, 0, 10142), (435, 4, 392, 0, 10145), (439, 4, 393, 0, 10148)]
def zt_lc18 : List (Nat × Int64 × Nat) := [(93, 2, 7083), (19, -1000000, 7165), (21, 1000000, 7166), (129, -1000, 7167), (131, 1000, 7168), (133, 40, 7169), (148, -9000000000, 7189), (7, 256, 7196), (9, 97, 7197), (11, 122, 7198), (17, 7, 7199), (164, 3, 7239), (27, 281474976710656, 8049), (224, 48, 8134), (226, 57, 8135), (308, 10, 8160), (310, 1000001, 8161), (333, 255, 9012), (382, 5, 10078), (384, 4, 10082)]
def zt_pl19 : List (Nat × Nat × Nat × Nat × Nat) := []
def zt_lc19 : List (Nat × Int64 × Nat) := []
def zt_pl20 : List (Nat × Nat × Nat × Nat × Nat) := []
def zt_lc20 : List (Nat × Int64 × Nat) := []
def zt_pl21 : List (Nat × Nat × Nat × Nat × Nat) := []
def zt_lc21 : List (Nat × Int64 × Nat) := []
def zt_pl22 : List (Nat × Nat × Nat × Nat × Nat) := []
def zt_lc22 : List (Nat × Int64 × Nat) := []
def zt_pl23 : List (Nat × Nat × Nat × Nat × Nat) := [(7, 6, 12, 0, 1236), (8, 2, 15, 999, 1042), (13, 2, 19, 999, 1233), (15, 2, 20, 999, 1234), (17, 2, 21, 999, 1235), (19, 6, 23, 0, 2145), (23, 6, 26, 0, 2157), (27, 6, 32, 0, 2184), (31, 6, 40, 0, 2215), (34, 6, 44, 0, 2232), (38, 6, 48, 0, 3007), (41, 6, 54, 0, 3034), (44, 6, 56, 0, 3041), (47, 6, 59, 0, 3053), (51, 6, 65, 0, 3075), (54, 6, 68, 0, 3087), (57, 6, 71, 0, 3098), (61, 6, 74, 0, 3108), (64, 6, 110, 0, 4087), (67, 6, 112, 0, 4095), (70, 6, 114, 0, 4102), (74, 6, 117, 0, 4112), (77, 6, 119, 0, 4119), (80, 6, 121, 0, 4126), (84, 6, 126, 0, 4146), (87, 6, 140, 0, 4209), (90, 6, 146, 0, 4237), (93, 6, 149, 0, 5009), (97, 6, 160, 0, 5077), (100, 6, 165, 0, 5100), (104, 6, 173, 0, 5137), (107, 2, 22, 999, 5136), (109, 6, 178, 0, 5174), (112, 6, 180, 0, 5181), (115, 6, 184, 0, 5196), (118, 6, 186, 0, 5207), (122, 6, 188, 0, 5214), (126, 6, 190, 0, 5221), (130, 6, 193, 0, 5234), (133, 6, 201, 0, 6028), (136, 6, 210, 0, 6081), (140, 6, 212, 0, 6088), (144, 8, 1, 0, 1044), (145, 2, 18, 999, 6096), (147, 8, 214, 0, 6098), (148, 4, 11, 0, 1230), (153, 6, 234, 0, 7076), (154, 6, 213, 0, 6092), (158, 4, 22, 0, 2142), (161, 6, 245, 0, 7136), (162, 4, 25, 0, 2154), (165, 6, 249, 0, 7157), (168, 4, 31, 0, 2181), (171, 6, 253, 0, 7181), (172, 4, 39, 0, 2212), (174, 6, 258, 0, 7204), (175, 4, 43, 0, 2229), (178, 6, 263, 0, 7231), (179, 4, 47, 0, 3004), (181, 6, 264, 0, 7235), (182, 4, 53, 0, 3031), (184, 6, 269, 0, 8017), (185, 6, 9, 0, 1222), (188, 6, 270, 0, 8021), (189, 4, 55, 0, 3038), (191, 6, 271, 0, 8025), (192, 4, 58, 0, 3050), (195, 6, 272, 0, 8029), (196, 4, 64, 0, 3072), (198, 6, 277, 0, 8050), (199, 4, 67, 0, 3084), (201, 6, 278, 0, 8056), (202, 4, 70, 0, 3095), (204, 6, 279, 0, 8061), (205, 4, 73, 0, 3105), (207, 6, 280, 0, 8066), (208, 4, 109, 0, 4084), (210, 6, 303, 0, 8212), (211, 4, 111, 0, 4092), (213, 6, 304, 0, 8216), (214, 4, 113, 0, 4099), (217, 6, 306, 0, 8225), (218, 4, 116, 0, 4109), (220, 6, 309, 0, 9000), (221, 4, 118, 0, 4116), (223, 6, 310, 0, 9004), (224, 4, 120, 0, 4123), (227, 6, 311, 0, 9008), (228, 6, 10, 0, 1226), (231, 6, 312, 0, 9013), (232, 4, 125, 0, 4143), (234, 6, 313, 0, 9017), (235, 4, 139, 0, 4206), (237, 6, 314, 0, 9024), (238, 4, 145, 0, 4234), (240, 6, 319, 0, 9049), (241, 4, 148, 0, 5006), (244, 6, 320, 0, 9054), (245, 4, 159, 0, 5074), (247, 6, 321, 0, 9059), (248, 4, 164, 0, 5097), (250, 6, 370, 0, 10059), (251, 4, 172, 0, 5133), (253, 6, 371, 0, 10063), (254, 4, 177, 0, 5171), (256, 6, 378, 0, 10095), (257, 4, 179, 0, 5178), (259, 6, 379, 0, 10099), (260, 4, 183, 0, 5193), (262, 6, 380, 0, 10103), (263, 4, 185, 0, 5204), (265, 6, 381, 0, 10107), (266, 4, 187, 0, 5211), (269, 6, 382, 0, 10111), (270, 4, 189, 0, 5218), (273, 6, 384, 0, 10118), (274, 4, 192, 0, 5231), (276, 6, 385, 0, 10122), (277, 4, 200, 0, 6025), (279, 6, 390, 0, 10138), (280, 4, 209, 0, 6078), (283, 6, 394, 0, 10152), (284, 4, 211, 0, 6085), (287, 6, 395, 0, 10156)]
def zt_lc23 : List (Nat × Int64 × Nat) := [(166, 4294967295, 10160)]
def zt_pl24 : List (Nat × Nat × Nat × Nat × Nat) := []
def zt_lc24 : List (Nat × Int64 × Nat) := []
def zt_pl25 : List (Nat × Nat × Nat × Nat × Nat) := [(9, 4, 133, 0, 4176), (240, 4, 347, 0, 9189)]
def zt_lc25 : List (Nat × Int64 × Nat) := []
def zt_pl26 : List (Nat × Nat × Nat × Nat × Nat) := []
def zt_lc26 : List (Nat × Int64 × Nat) := []
def zt_pl27 : List (Nat × Nat × Nat × Nat × Nat) := [(11, 4, 330, 0, 9103), (48, 4, 137, 0, 4190), (67, 4, 136, 0, 4187), (71, 4, 138, 0, 4194), (96, 4, 339, 0, 9160), (111, 4, 342, 0, 9169), (123, 4, 368, 0, 10040), (126, 4, 364, 0, 10043), (173, 4, 348, 0, 9192), (241, 4, 340, 0, 9163), (393, 4, 357, 0, 9227), (414, 4, 133, 0, 4193), (419, 4, 349, 0, 9195)]
def zt_lc27 : List (Nat × Int64 × Nat) := []
def zt_pl28 : List (Nat × Nat × Nat × Nat × Nat) := [(1, 8, 218, 0, 6117), (7, 0, 4, 0, 6125)]
def zt_lc28 : List (Nat × Int64 × Nat) := []
def zt_pl29 : List (Nat × Nat × Nat × Nat × Nat) := [(1, 10, 0, 0, 6120)]
def zt_lc29 : List (Nat × Int64 × Nat) := []
def zt_pl30 : List (Nat × Nat × Nat × Nat × Nat) := [(105, 4, 134, 0, 6185)]
def zt_lc30 : List (Nat × Int64 × Nat) := []
def zt_pl31 : List (Nat × Nat × Nat × Nat × Nat) := [(194, 16, 0, 0, 6215), (201, 4, 230, 0, 6217)]
def zt_lc31 : List (Nat × Int64 × Nat) := []
def zt_pl32 : List (Nat × Nat × Nat × Nat × Nat) := [(2, 2, 999, 5, 7016), (43, 2, 20, 999, 10029), (45, 2, 1, 999, 10030), (47, 8, 327, 0, 10031), (50, 6, 331, 0, 10034), (54, 6, 352, 0, 10032), (61, 6, 358, 0, 10035), (110, 18, 5, 0, 7014), (150, 17, 0, 0, 7020), (300, 4, 232, 0, 7011), (304, 16, 0, 1, 7017), (311, 18, 3, 0, 9151), (337, 13, 0, 0, 10033), (339, 4, 365, 0, 10023), (343, 4, 366, 0, 10026)]
def zt_lc32 : List (Nat × Int64 × Nat) := []
def zt_pl33 : List (Nat × Nat × Nat × Nat × Nat) := [(1, 10, 0, 0, 7110)]
def zt_lc33 : List (Nat × Int64 × Nat) := []
def zt_pl34 : List (Nat × Nat × Nat × Nat × Nat) := [(27, 14, 1, 0, 7153), (31, 14, 2, 0, 7155)]
def zt_lc34 : List (Nat × Int64 × Nat) := []
def zt_pl35 : List (Nat × Nat × Nat × Nat × Nat) := [(3, 10, 0, 0, 9098), (15, 0, 1, 0, 9107), (18, 14, 6, 0, 9099), (22, 0, 1, 1, 9108), (26, 4, 329, 0, 9100), (32, 6, 128, 0, 9172), (40, 6, 129, 0, 9181), (79, 0, 1, 3, 9110), (108, 4, 336, 0, 9142), (114, 4, 229, 0, 9140), (125, 4, 346, 0, 9186), (226, 4, 338, 0, 9157), (245, 4, 354, 0, 9214), (248, 4, 355, 0, 9217), (251, 4, 356, 0, 9224), (399, 6, 351, 0, 9201)]
def zt_lc35 : List (Nat × Int64 × Nat) := []
/-- calls through List: the named method, the place of the one that runs -/
def zt_ift : List (MethodName × Nat) := [(⟨"java/util/List", "size", "()I"⟩, 221), (⟨"java/util/List", "get", "(I)Ljava/lang/Object;"⟩, 222), (⟨"java/util/List", "add", "(Ljava/lang/Object;)Z"⟩, 225), (⟨"java/util/List", "remove", "(I)Ljava/lang/Object;"⟩, 243), (⟨"java/util/List", "set", "(ILjava/lang/Object;)Ljava/lang/Object;"⟩, 262), (⟨"java/util/List", "clear", "()V"⟩, 317), (⟨"java/util/List", "add", "(ILjava/lang/Object;)V"⟩, 324), (⟨"java/util/List", "isEmpty", "()Z"⟩, 376)]
def zt_pl : List (List (Nat × Nat × Nat × Nat × Nat)) := [zt_pl0, zt_pl1, zt_pl2, zt_pl3, zt_pl4, zt_pl5, zt_pl6, zt_pl7, zt_pl8, zt_pl9, zt_pl10, zt_pl11, zt_pl12, zt_pl13, zt_pl14, zt_pl15, zt_pl16, zt_pl17, zt_pl18, zt_pl19, zt_pl20, zt_pl21, zt_pl22, zt_pl23, zt_pl24, zt_pl25, zt_pl26, zt_pl27, zt_pl28, zt_pl29, zt_pl30, zt_pl31, zt_pl32, zt_pl33, zt_pl34, zt_pl35]
def zt_lc : List (List (Nat × Int64 × Nat)) := [zt_lc0, zt_lc1, zt_lc2, zt_lc3, zt_lc4, zt_lc5, zt_lc6, zt_lc7, zt_lc8, zt_lc9, zt_lc10, zt_lc11, zt_lc12, zt_lc13, zt_lc14, zt_lc15, zt_lc16, zt_lc17, zt_lc18, zt_lc19, zt_lc20, zt_lc21, zt_lc22, zt_lc23, zt_lc24, zt_lc25, zt_lc26, zt_lc27, zt_lc28, zt_lc29, zt_lc30, zt_lc31, zt_lc32, zt_lc33, zt_lc34, zt_lc35]
/-- classes none of whose methods is the machine's own -/
def zt_pln : List Bool := [true, true, true, true, true, true, true, true, true, true, true, true, true, true, true, true, true, true, true, true, true, true, true, true, false, true, true, true, true, true, true, true, true, true, true, true]
/-- the class of an array's component: its place, or 999 -/
def zt_atc : List Nat := [13, 999, 999, 999, 17, 999, 999, 999]
/-- is a field declared by the class itself -/
def zt_own : List (List Bool) := [[true, true, true, true], [false, false, false, false], [true], [true], [false, true, true], [true, true, true], [true, true, true, true, true, true, true], [true, true], [true, true, true, true, true], [true, true], [true, true, true, true], [true, true, true, true, true, true, true], [true, true, true], [true, true, true, true, true, true], [true, true, true, true], [true, true, true, true, true, true], [true, true, true, true], [true, true, true, true], [true, true, true, true, true, true, true, true, true, true, true, true, true, true, true, true]]
/-- the types of the fields -/
def zt_fty : List (List FieldType) := [[.array (.byte), .byte, .int, .boolean], [.array (.byte), .byte, .boolean, .int], [.int], [.long], [.int, .array (.object "java/lang/Object"), .int], [.object "ColumnVault$Sheet", .object "ColumnVault$Groups", .array (.long)], [.object "ColumnVault$Tokens", .object "ColumnVault$Sheet", .array (.long), .int, .int, .int, .int], [.array (.int), .int], [.object "ColumnVault$Sheet", .array (.long), .array (.long), .int, .int], [.array (.object "ColumnVault$Sheet"), .int], [.object "ColumnVault$Sheet", .int, .object "ColumnVault$Sheet", .int], [.int, .long, .object "ColumnVault$Node", .object "ColumnVault$Node", .object "ColumnVault$Node", .object "ColumnVault$Node", .object "ColumnVault$Node"], [.array (.int), .array (.int), .int], [.array (.int), .array (.long), .array (.int), .int, .int, .long], [.array (.int), .array (.int), .array (.long), .int], [.object "ColumnVault$History", .object "ColumnVault$FilterText", .object "ColumnVault$Tokens", .object "ColumnVault$Pairs", .object "ColumnVault$Groups", .object "ColumnVault$Checks"], [.int, .object "java/util/List", .int, .object "java/util/List"], [.object "java/util/List", .object "java/util/List", .object "java/util/List", .object "java/util/List"], [.int, .array (.object "ColumnVaultModel$Table"), .object "java/util/List", .int, .array (.int), .int, .int, .int, .int, .int, .int, .object "ColumnVaultModel$Table", .object "java/util/List", .object "ColumnVaultModel$Table", .int, .object "java/util/List"]]
end
section
/-! ===== the evaluator with a heap: cells at places 0, 1, .. in the order in which they are made ===== -/
abbrev zx_E : Type := (Nat × vp_A) ⊕ (Nat × List Value)
abbrev zx_H : Type := List zx_E
def zx_fp {β : Type} (i : Nat) : List (Nat × β) → Option β
  | [] => none
  | (j, v) :: r => if j = i then some v else zx_fp i r
/-- what an entry of a class's pool means: kind, x, y, the place of its word -/
def zx_pool (oc i : Nat) : Option (Nat × Nat × Nat × Nat) := (zt_pl[oc]?).bind (zx_fp i)
def zx_lng (oc i : Nat) : Option (Int64 × Nat) := (zt_lc[oc]?).bind (zx_fp i)
def zx_fi (ty : FieldType) : Nat → List FieldType → Option Nat
  | _, [] => none
  | k, t :: r => if t = ty then some k else zx_fi ty (k + 1) r
/-- the place of an array's component type -/
def zx_at (ty : FieldType) : Option Nat := zx_fi ty 0 zt_at
def zx_ftype (ci k : Nat) : FieldType := (zt_fty.getD ci []).getD k .int
/-- a new object's fields -/
def zx_def (ci : Nat) : List Value := (zt_fty.getD ci []).map defaultValue
def zx_sz1 : zx_E → Nat
  | .inl (_, n, _) => n
  | .inr (c, _) => zt_sz.getD c 0
def zx_sz (h : zx_H) : Nat := (h.map zx_sz1).sum
/-- a new array of numbers -/
def zx_arr (ty : FieldType) (n : Nat) : Option vp_A := match ty with
  | .int | .byte | .short | .char | .boolean => some (n, .inl (fun _ => 0))
  | .long => some (n, .inr (.inl (fun _ => 0)))
  | .float => some (n, .inr (.inr (.inl (fun _ => 0))))
  | .double => some (n, .inr (.inr (.inr (.inl (fun _ => 0)))))
  | _ => none
def zx_rf (r : Option Nat) : Value := match r with
  | none => .null
  | some k => .ref k
def zx_fin (ci k : Nat) : Bool := match zt_cl[ci]? with
  | some r => (r.2.1 k).2.2.2
  | none => true
def zx_own (ci k : Nat) : Bool := (zt_own.getD ci []).getD k false
def zx_getf (oc i q : Nat) (h : zx_H) : Option Value := match zx_pool oc i with
  | some (kd, ci, k, _) => match h[q]? with
    | some (.inr (cj, fs)) => if kd ≤ 1 ∧ cj = ci then fs[k]? else none
    | _ => none
  | none => none
def zx_putf (oc i q : Nat) (ini : Bool) (v : Value) (h : zx_H) : Option zx_H := match zx_pool oc i with
  | some (kd, ci, k, _) => match h[q]? with
    | some (.inr (cj, fs)) => if cj = ci ∧ k < fs.length ∧ narrow (zx_ftype ci k) v = v ∧ fits (zx_ftype ci k) v = true ∧
        ((kd ≤ 1 ∧ zx_fin ci k = false) ∨ (kd = 0 ∧ ini = true ∧ zx_fin ci k = true ∧ oc = ci ∧ zx_own ci k = true)) then some (h.set q (.inr (ci, fs.set k v))) else none
    | _ => none
  | none => none
/-- a reference among the cells, or null -/
def zx_or : Value → Option (Option Nat)
  | .null => some none
  | .ref k => if k < zx_lim then some (some k) else none
  | _ => none
/-- an index that lies in an array -/
abbrev zx_in (i : Int32) (n : Nat) : Prop := ¬ (i < 0 ∨ n ≤ i.toNatClampNeg)
/-- what touches the heap and goes on in the same frame; oc: the class's place, ini: a constructor, sc: the script -/
def zx_h (oc : Nat) (ini : Bool) (sc : (Nat × (Nat → Int32)) × Bool) (pc : Nat) (lv : List (Nat × Value)) (st : List Value) (h : zx_H) : Instr → Nat → Option (zx_F × zx_H)
  | .getfield i, 3 => match st with
    | .ref q :: r => (zx_getf oc i q h).map fun v => ((pc + 3, lv, v :: r), h)
    | _ => none
  | .putfield i, 3 => match st with
    | v :: .ref q :: r => (zx_putf oc i q ini v h).map fun h' => ((pc + 3, lv, r), h')
    | _ => none
  | .new i, 3 => match zx_pool oc i with
    | some (kd, ci, _, _) => if kd = 2 ∧ ci < zt_x0 ∧ h.length < zx_lim then some ((pc + 3, lv, .ref h.length :: st), h ++ [.inr (ci, zx_def ci)]) else none
    | none => none
  | .newarray ty, 2 => match st with
    | .int n :: r => match zx_at (newarray.typeOf ty), zx_arr (newarray.typeOf ty) n.toNatClampNeg with
      | some t, some a0 => if ¬ n < 0 ∧ n.toNatClampNeg * componentBytes (newarray.typeOf ty) ≤ 536870912 ∧ h.length < zx_lim then some ((pc + 2, lv, .ref h.length :: r), h ++ [.inl (t, a0)]) else none
      | _, _ => none
    | _ => none
  | .anewarray i, 3 => match st with
    | .int n :: r => match zx_pool oc i with
      | some (kd, _, t, _) => match zt_at[t]? with
        | some (.object _) => if kd = 2 ∧ ¬ n < 0 ∧ n.toNatClampNeg * 4 ≤ 536870912 ∧ h.length < zx_lim then some ((pc + 3, lv, .ref h.length :: r), h ++ [.inl (t, n.toNatClampNeg, .inr (.inr (.inr (.inr (fun _ => none)))))]) else none
        | _ => none
      | none => none
    | _ => none
  | .arraylength, 1 => match st with
    | .ref q :: r => if q = zx_lim then some ((pc + 1, lv, .int (Int32.ofNat sc.1.1) :: r), h) else match h[q]? with
      | some (.inl (t, n, _)) => if (zt_at[t]?).isSome then some ((pc + 1, lv, .int (Int32.ofNat n) :: r), h) else none
      | _ => none
    | _ => none
  | .iaload, 1 => match st with
    | .int i :: .ref q :: r => if q = zx_lim then (if zx_in i sc.1.1 then some ((pc + 1, lv, .int (sc.1.2 i.toNatClampNeg) :: r), h) else none) else match h[q]? with
      | some (.inl (t, n, .inl f)) => if zt_at[t]? = some .int ∧ zx_in i n then some ((pc + 1, lv, .int (f i.toNatClampNeg) :: r), h) else none
      | _ => none
    | _ => none
  | .laload, 1 => match st with
    | .int i :: .ref q :: r => match h[q]? with
      | some (.inl (t, n, .inr (.inl f))) => if zt_at[t]? = some .long ∧ zx_in i n then some ((pc + 1, lv, .long (f i.toNatClampNeg) :: r), h) else none
      | _ => none
    | _ => none
  | .daload, 1 => match st with
    | .int i :: .ref q :: r => match h[q]? with
      | some (.inl (t, n, .inr (.inr (.inr (.inl f))))) => if zt_at[t]? = some .double ∧ zx_in i n then some ((pc + 1, lv, .double (f i.toNatClampNeg) :: r), h) else none
      | _ => none
    | _ => none
  | .baload, 1 => match st with
    | .int i :: .ref q :: r => match h[q]? with
      | some (.inl (t, n, .inl f)) => if (zt_at[t]? = some .boolean ∨ zt_at[t]? = some .byte) ∧ zx_in i n then some ((pc + 1, lv, .int (f i.toNatClampNeg) :: r), h) else none
      | _ => none
    | _ => none
  | .aaload, 1 => match st with
    | .int i :: .ref q :: r => match h[q]? with
      | some (.inl (t, n, .inr (.inr (.inr (.inr f))))) => match zt_at[t]? with
        | some (.object _) => if zx_in i n then some ((pc + 1, lv, zx_rf (f i.toNatClampNeg) :: r), h) else none
        | _ => none
      | _ => none
    | _ => none
  | .iastore, 1 => match st with
    | .int x :: .int i :: .ref q :: r => match h[q]? with
      | some (.inl (t, n, .inl f)) => if zt_at[t]? = some .int ∧ zx_in i n then some ((pc + 1, lv, r), h.set q (.inl (t, n, .inl (upd f i.toNatClampNeg x)))) else none
      | _ => none
    | _ => none
  | .lastore, 1 => match st with
    | .long x :: .int i :: .ref q :: r => match h[q]? with
      | some (.inl (t, n, .inr (.inl f))) => if zt_at[t]? = some .long ∧ zx_in i n then some ((pc + 1, lv, r), h.set q (.inl (t, n, .inr (.inl (vp_updL f i.toNatClampNeg x))))) else none
      | _ => none
    | _ => none
  | .aastore, 1 => match st with
    | .null :: .int i :: .ref q :: r => match h[q]? with
      | some (.inl (t, n, .inr (.inr (.inr (.inr f))))) => match zt_at[t]? with
        | some (.object _) => if zx_in i n then some ((pc + 1, lv, r), h.set q (.inl (t, n, .inr (.inr (.inr (.inr (va_up f i.toNatClampNeg none))))))) else none
        | _ => none
      | _ => none
    | .ref k :: .int i :: .ref q :: r => match h[q]? with
      | some (.inl (t, n, .inr (.inr (.inr (.inr f))))) => match zt_at[t]?, zt_atc[t]?, h[k]? with
        | some (.object _), some cj, some (.inr (ci, _)) => if ci = cj ∧ cj ≠ 999 ∧ zx_in i n then some ((pc + 1, lv, r), h.set q (.inl (t, n, .inr (.inr (.inr (.inr (va_up f i.toNatClampNeg (some k)))))))) else none
        | _, _, _ => none
      | _ => none
    | _ => none
  | .if_acmp cd off, 3 => match st with
    | y :: x :: r => match zx_or x, zx_or y with
      | some u, some w => match cd with
        | .eq => (zx_br (decide (u = w)) pc off lv r).map fun f => (f, h)
        | .ne => (zx_br (decide (¬ u = w)) pc off lv r).map fun f => (f, h)
      | _, _ => none
    | _ => none
  | .dastore, 1 => match st with
    | .double x :: .int i :: .ref q :: r => match h[q]? with
      | some (.inl (t, n, .inr (.inr (.inr (.inl f))))) => if zt_at[t]? = some .double ∧ zx_in i n then some ((pc + 1, lv, r), h.set q (.inl (t, n, .inr (.inr (.inr (.inl (vf_upd f i.toNatClampNeg x))))))) else none
      | _ => none
    | _ => none
  | .invokespecial i, 3 => match st with
    | .ref _ :: r => match zx_pool oc i with
      | some (kd, _, _, _) => if kd = 10 ∧ (r.map fun v => v.category).sum ≤ 8 then some ((pc + 3, lv, r), h) else none
      | none => none
    | _ => none
  | .ldc2_w i, 3 => (zx_lng oc i).map fun q => ((pc + 3, lv, .long q.1 :: st), h)
  | _, _ => none
/-- a cell that stood before -/
def zx_x (q : Nat) : Option (FieldType × zx_E) := if zx_lim < q then zt_ext (q - zx_lim - 1) else none
/-- may this reference lie in an Object[]? -/
def zx_ob (h : zx_H) (k : Nat) : Bool := match h[k]? with
  | some (.inr (ci, _)) => decide (ci < zt_x0)
  | some (.inl (t, _)) => decide (t < zt_at.length)
  | none => match zx_x k with
    | some (.object _, .inr _) => true
    | _ => false
def zx_or2 : Value → Option (Option Nat)
  | .null => some none
  | .ref k => if k < zx_lim ∨ (k = zx_lim + 1 ∧ (zt_ext 0).isSome = true) then some (some k) else none
  | _ => none
/-- more heap steps: what stood before, Object[], casts, natives -/
def zx_h2 (oc : Nat) (sc : (Nat × (Nat → Int32)) × Bool) (pc : Nat) (lv : List (Nat × Value)) (st : List Value) (h : zx_H) : Instr → Nat → Option (zx_F × zx_H)
  | .getfield i, 3 => match st with
    | .ref q :: r => match zx_pool oc i, zx_x q with
      | some (0, ci, k, _), some (.object _, .inr (cj, fs)) => if cj = ci then match fs[k]? with
          | some (.retAddr _) => none
          | some v => some ((pc + 3, lv, v :: r), h)
          | none => none
        else none
      | _, _ => none
    | _ => none
  | .getstatic i, 3 => match zx_pool oc i with
    | some (14, x, _, _) => ((zt_stv sc.2)[x]?).map fun v => ((pc + 3, lv, v :: st), h)
    | _ => none
  | .arraylength, 1 => match st with
    | .ref q :: r => match zx_x q with
      | some (_, .inl (_, n, _)) => some ((pc + 1, lv, .int (Int32.ofNat n) :: r), h)
      | _ => none
    | _ => none
  | .baload, 1 => match st with
    | .int i :: .ref q :: r => match zx_x q with
      | some (.byte, .inl (_, n, .inl f)) => if zx_in i n then some ((pc + 1, lv, .int (f i.toNatClampNeg) :: r), h) else none
      | _ => none
    | _ => none
  | .aaload, 1 => match st with
    | .int i :: .ref q :: r => match zx_x q with
      | some (.object _, .inl (_, n, .inr (.inr (.inr (.inr f))))) => if zx_in i n then some ((pc + 1, lv, zx_rf (f i.toNatClampNeg) :: r), h) else none
      | _ => none
    | _ => none
  | .aastore, 1 => match st with
    | .ref k :: .int i :: .ref q :: r => match h[q]? with
      | some (.inl (t, n, .inr (.inr (.inr (.inr f))))) => if t = zt_objT ∧ zt_objT ≠ 999 ∧ zx_ob h k = true ∧ zx_in i n then some ((pc + 1, lv, r), h.set q (.inl (t, n, .inr (.inr (.inr (.inr (va_up f i.toNatClampNeg (some k)))))))) else none
      | _ => none
    | _ => none
  | .checkcast i, 3 => match st with
    | .null :: r => some ((pc + 3, lv, .null :: r), h)
    | .ref k :: r => match zx_pool oc i with
      | some (2, ci, _, _) => match h[k]? with
        | some (.inr (cj, _)) => if cj = ci ∧ ci ≠ 999 then some ((pc + 3, lv, .ref k :: r), h) else none
        | _ => match zx_x k with
          | some (.object _, .inr (cj, _)) => if cj = ci ∧ ci ≠ 999 then some ((pc + 3, lv, .ref k :: r), h) else none
          | _ => none
      | some (18, t, _, _) => match h[k]? with
        | some (.inl (t', _)) => if t' = t then some ((pc + 3, lv, .ref k :: r), h) else none
        | _ => none
      | some (19, _, _, _) => if (k = zx_lim + 1 + 1 ∧ (zt_ext 1).isSome = true) ∨ (k = zx_lim + 1 + 2 ∧ (zt_ext 2).isSome = true) then some ((pc + 3, lv, .ref k :: r), h) else none
      | _ => none
    | _ => none
  | .bastore, 1 => match st with
    | .int x :: .int i :: .ref q :: r => match h[q]? with
      | some (.inl (t, n, .inl f)) => if zt_at[t]? = some .boolean ∧ zx_in i n then some ((pc + 1, lv, r), h.set q (.inl (t, n, .inl (upd f i.toNatClampNeg (vp_nar .boolean x)))))
        else if zt_at[t]? = some .byte ∧ zx_in i n then some ((pc + 1, lv, r), h.set q (.inl (t, n, .inl (upd f i.toNatClampNeg (vp_nar .byte x))))) else none
      | _ => none
    | _ => none
  | .invokestatic i, 3 => match zx_pool oc i with
    | some (16, _, 0, _) => match st with
      | .int y :: .int x :: r => if (r.map fun v => v.category).sum ≤ 8 then some ((pc + 3, lv, .int (if x < y then y else x) :: r), h) else none
      | _ => none
    | some (16, _, 1, _) => match st with
      | .int y :: .int x :: r => if (r.map fun v => v.category).sum ≤ 8 then some ((pc + 3, lv, .int (if y < x then y else x) :: r), h) else none
      | _ => none
    | some (16, _, 2, _) => match st with
      | .long y :: .long x :: r => if (r.map fun v => v.category).sum ≤ 8 then some ((pc + 3, lv, .long (if y < x then y else x) :: r), h) else none
      | _ => none
    | some (17, _, _, _) => match st with
      | .int len :: .int dp :: .ref q1 :: .int sp :: .ref q0 :: r => match h[q0]?, h[q1]? with
        | some (.inl (t0, n0, .inl f)), some (.inl (t1, n1, .inl g)) => if t0 = t1 ∧ zt_at[t0]? = some .int ∧ ¬ sp < 0 ∧ ¬ dp < 0 ∧ ¬ len < 0 ∧ sp.toNatClampNeg + len.toNatClampNeg ≤ n0 ∧ dp.toNatClampNeg + len.toNatClampNeg ≤ n1 ∧ (r.map fun v => v.category).sum ≤ 8 then
            some ((pc + 3, lv, r), h.set q1 (.inl (t1, n1, .inl (va_cpy f g sp.toNatClampNeg dp.toNatClampNeg len.toNatClampNeg)))) else none
        | some (.inl (t0, n0, .inr (.inl f))), some (.inl (t1, n1, .inr (.inl g))) => if t0 = t1 ∧ zt_at[t0]? = some .long ∧ ¬ sp < 0 ∧ ¬ dp < 0 ∧ ¬ len < 0 ∧ sp.toNatClampNeg + len.toNatClampNeg ≤ n0 ∧ dp.toNatClampNeg + len.toNatClampNeg ≤ n1 ∧ (r.map fun v => v.category).sum ≤ 8 then
            some ((pc + 3, lv, r), h.set q1 (.inl (t1, n1, .inr (.inl (va_cpy f g sp.toNatClampNeg dp.toNatClampNeg len.toNatClampNeg))))) else none
        | _, _ => none
      | _ => none
    | _ => none
  | .ldc i, 2 => match zx_pool oc i with
    | some (13, x, 1, _) => some ((pc + 2, lv, .ref (zx_lim + 1 + x) :: st), h)
    | _ => none
  | .if_acmp cd off, 3 => match st with
    | y :: x :: r => match zx_or2 x, zx_or2 y with
      | some u, some w => match cd with
        | .eq => (zx_br (decide (u = w)) pc off lv r).map fun f => (f, h)
        | .ne => (zx_br (decide (¬ u = w)) pc off lv r).map fun f => (f, h)
      | _, _ => none
    | _ => none
  | _, _ => none
end
section
/-! ===== the tables are right: each entry's word stands among the claim's words (written by wip/zx/gen_tables.py) ===== -/
def zt_good : List Cond := lw_tbl.filter goodWord
theorem zt_in {j k : Nat} {w : Cond} (h : (zt_ch j)[k]? = some w) (hg : goodWord w = true) : w ∈ zt_good := List.mem_filter.mpr ⟨zt_ch_in (List.mem_of_getElem? h), hg⟩
/-- words that a warm machine keeps, though they are no good words -/
def zx_nwk : Cond → Bool
  | .fieldLinkNest .. | .methodLinkNest .. | .declares _ | .castable .. => true
  | _ => false
def zt_nw : List Cond := lw_tbl.filter zx_nwk
theorem zt_inN {j k : Nat} {w : Cond} (h : (zt_ch j)[k]? = some w) (hg : zx_nwk w = true) : w ∈ zt_nw := List.mem_filter.mpr ⟨zt_ch_in (List.mem_of_getElem? h), hg⟩
/-- a class: its fields' words, types and names; that it can be made -/
def zt_cOK (ci : Nat) (r : vw_C) : Prop := (∀ k, k < r.2.2 → u_lay r.1 r.2.1 k ∈ zt_good) ∧ (∀ k, k < r.2.2 → parseFieldDescriptor (r.2.1 k).2.2.1 = some (((zt_fty.getD ci []).getD k .int))) ∧
  (∀ a, a < r.2.2 → ∀ b, b < r.2.2 → a ≠ b → (r.2.1 a).2.1 ≠ (r.2.1 b).2.1) ∧ (ci < zt_x0 → Cond.instantiable r.1 r.2.2 ∈ zt_good) ∧ Cond.initialized r.1 ∈ zt_good ∧ (∀ k, k < r.2.2 → (zt_own.getD ci []).getD k false = true → (r.2.1 k).1 = r.1)
set_option maxRecDepth 100000 in
theorem zt_c0 : zt_cOK 0 ("java/lang/String", zt_T_TJ0, 4) := ⟨fun k hk => match k, hk with
    | 0, _ => (zt_in (j := 10) (k := 49) rfl rfl)
    | 1, _ => (zt_in (j := 10) (k := 51) rfl rfl)
    | 2, _ => (zt_in (j := 10) (k := 53) rfl rfl)
    | 3, _ => (zt_in (j := 10) (k := 55) rfl rfl)
    | k + 4, hk => absurd hk (Nat.not_lt.mpr (Nat.le_add_left 4 k)),
  fun k hk => match k, hk with
    | 0, _ => by decide +kernel
    | 1, _ => by decide +kernel
    | 2, _ => by decide +kernel
    | 3, _ => by decide +kernel
    | k + 4, hk => absurd hk (Nat.not_lt.mpr (Nat.le_add_left 4 k)),
  by decide +kernel,
  fun _ => (zt_in (j := 9) (k := 238) rfl rfl), (zt_in (j := 1) (k := 34) rfl rfl),
  fun k hk => match k, hk with
    | 0, _ => fun _ => rfl
    | 1, _ => fun _ => rfl
    | 2, _ => fun _ => rfl
    | 3, _ => fun _ => rfl
    | k + 4, hk => absurd hk (Nat.not_lt.mpr (Nat.le_add_left 4 k))⟩
set_option maxRecDepth 100000 in
theorem zt_c1 : zt_cOK 1 ("java/lang/StringBuilder", zt_T_TJ4, 4) := ⟨fun k hk => match k, hk with
    | 0, _ => (zt_in (j := 9) (k := 111) rfl rfl)
    | 1, _ => (zt_in (j := 9) (k := 113) rfl rfl)
    | 2, _ => (zt_in (j := 9) (k := 115) rfl rfl)
    | 3, _ => (zt_in (j := 9) (k := 117) rfl rfl)
    | k + 4, hk => absurd hk (Nat.not_lt.mpr (Nat.le_add_left 4 k)),
  fun k hk => match k, hk with
    | 0, _ => by decide +kernel
    | 1, _ => by decide +kernel
    | 2, _ => by decide +kernel
    | 3, _ => by decide +kernel
    | k + 4, hk => absurd hk (Nat.not_lt.mpr (Nat.le_add_left 4 k)),
  by decide +kernel,
  fun _ => (zt_in (j := 9) (k := 91) rfl rfl), (zt_in (j := 1) (k := 40) rfl rfl),
  fun k hk => match k, hk with
    | 0, _ => fun h => absurd h (by decide)
    | 1, _ => fun h => absurd h (by decide)
    | 2, _ => fun h => absurd h (by decide)
    | 3, _ => fun h => absurd h (by decide)
    | k + 4, hk => absurd hk (Nat.not_lt.mpr (Nat.le_add_left 4 k))⟩
set_option maxRecDepth 100000 in
theorem zt_c2 : zt_cOK 2 ("java/lang/Integer", zt_T_TJ6, 1) := ⟨fun k hk => match k, hk with
    | 0, _ => (zt_in (j := 7) (k := 112) rfl rfl)
    | k + 1, hk => absurd hk (Nat.not_lt.mpr (Nat.le_add_left 1 k)),
  fun k hk => match k, hk with
    | 0, _ => by decide +kernel
    | k + 1, hk => absurd hk (Nat.not_lt.mpr (Nat.le_add_left 1 k)),
  by decide +kernel,
  fun _ => (zt_in (j := 7) (k := 103) rfl rfl), (zt_in (j := 1) (k := 27) rfl rfl),
  fun k hk => match k, hk with
    | 0, _ => fun _ => rfl
    | k + 1, hk => absurd hk (Nat.not_lt.mpr (Nat.le_add_left 1 k))⟩
set_option maxRecDepth 100000 in
theorem zt_c3 : zt_cOK 3 ("java/lang/Long", zt_T_TJ13, 1) := ⟨fun k hk => match k, hk with
    | 0, _ => (zt_in (j := 8) (k := 177) rfl rfl)
    | k + 1, hk => absurd hk (Nat.not_lt.mpr (Nat.le_add_left 1 k)),
  fun k hk => match k, hk with
    | 0, _ => by decide +kernel
    | k + 1, hk => absurd hk (Nat.not_lt.mpr (Nat.le_add_left 1 k)),
  by decide +kernel,
  fun _ => (zt_in (j := 8) (k := 171) rfl rfl), (zt_in (j := 1) (k := 30) rfl rfl),
  fun k hk => match k, hk with
    | 0, _ => fun _ => rfl
    | k + 1, hk => absurd hk (Nat.not_lt.mpr (Nat.le_add_left 1 k))⟩
set_option maxRecDepth 100000 in
theorem zt_c4 : zt_cOK 4 ("java/util/ArrayList", zt_T_TJx4a65c, 3) := ⟨fun k hk => match k, hk with
    | 0, _ => (zt_in (j := 6) (k := 132) rfl rfl)
    | 1, _ => (zt_in (j := 6) (k := 128) rfl rfl)
    | 2, _ => (zt_in (j := 6) (k := 130) rfl rfl)
    | k + 3, hk => absurd hk (Nat.not_lt.mpr (Nat.le_add_left 3 k)),
  fun k hk => match k, hk with
    | 0, _ => by decide +kernel
    | 1, _ => by decide +kernel
    | 2, _ => by decide +kernel
    | k + 3, hk => absurd hk (Nat.not_lt.mpr (Nat.le_add_left 3 k)),
  by decide +kernel,
  fun _ => (zt_in (j := 6) (k := 110) rfl rfl), (zt_in (j := 1) (k := 13) rfl rfl),
  fun k hk => match k, hk with
    | 0, _ => fun h => absurd h (by decide)
    | 1, _ => fun _ => rfl
    | 2, _ => fun _ => rfl
    | k + 3, hk => absurd hk (Nat.not_lt.mpr (Nat.le_add_left 3 k))⟩
set_option maxRecDepth 100000 in
theorem zt_c5 : zt_cOK 5 ("ColumnVault$Checks", zt_T_TX0, 3) := ⟨fun k hk => match k, hk with
    | 0, _ => (zt_in (j := 1) (k := 196) rfl rfl)
    | 1, _ => (zt_in (j := 1) (k := 198) rfl rfl)
    | 2, _ => (zt_in (j := 1) (k := 200) rfl rfl)
    | k + 3, hk => absurd hk (Nat.not_lt.mpr (Nat.le_add_left 3 k)),
  fun k hk => match k, hk with
    | 0, _ => by decide +kernel
    | 1, _ => by decide +kernel
    | 2, _ => by decide +kernel
    | k + 3, hk => absurd hk (Nat.not_lt.mpr (Nat.le_add_left 3 k)),
  by decide +kernel,
  fun _ => (zt_in (j := 1) (k := 184) rfl rfl), (zt_in (j := 1) (k := 8) rfl rfl),
  fun k hk => match k, hk with
    | 0, _ => fun _ => rfl
    | 1, _ => fun _ => rfl
    | 2, _ => fun _ => rfl
    | k + 3, hk => absurd hk (Nat.not_lt.mpr (Nat.le_add_left 3 k))⟩
set_option maxRecDepth 100000 in
theorem zt_c6 : zt_cOK 6 ("ColumnVault$FilterReader", zt_T_TX1, 7) := ⟨fun k hk => match k, hk with
    | 0, _ => (zt_in (j := 3) (k := 136) rfl rfl)
    | 1, _ => (zt_in (j := 3) (k := 138) rfl rfl)
    | 2, _ => (zt_in (j := 3) (k := 140) rfl rfl)
    | 3, _ => (zt_in (j := 3) (k := 142) rfl rfl)
    | 4, _ => (zt_in (j := 3) (k := 144) rfl rfl)
    | 5, _ => (zt_in (j := 3) (k := 146) rfl rfl)
    | 6, _ => (zt_in (j := 3) (k := 148) rfl rfl)
    | k + 7, hk => absurd hk (Nat.not_lt.mpr (Nat.le_add_left 7 k)),
  fun k hk => match k, hk with
    | 0, _ => by decide +kernel
    | 1, _ => by decide +kernel
    | 2, _ => by decide +kernel
    | 3, _ => by decide +kernel
    | 4, _ => by decide +kernel
    | 5, _ => by decide +kernel
    | 6, _ => by decide +kernel
    | k + 7, hk => absurd hk (Nat.not_lt.mpr (Nat.le_add_left 7 k)),
  by decide +kernel,
  fun _ => (zt_in (j := 3) (k := 122) rfl rfl), (zt_in (j := 1) (k := 31) rfl rfl),
  fun k hk => match k, hk with
    | 0, _ => fun _ => rfl
    | 1, _ => fun _ => rfl
    | 2, _ => fun _ => rfl
    | 3, _ => fun _ => rfl
    | 4, _ => fun _ => rfl
    | 5, _ => fun _ => rfl
    | 6, _ => fun _ => rfl
    | k + 7, hk => absurd hk (Nat.not_lt.mpr (Nat.le_add_left 7 k))⟩
set_option maxRecDepth 100000 in
theorem zt_c7 : zt_cOK 7 ("ColumnVault$FilterText", zt_T_TX2, 2) := ⟨fun k hk => match k, hk with
    | 0, _ => (zt_in (j := 1) (k := 114) rfl rfl)
    | 1, _ => (zt_in (j := 1) (k := 116) rfl rfl)
    | k + 2, hk => absurd hk (Nat.not_lt.mpr (Nat.le_add_left 2 k)),
  fun k hk => match k, hk with
    | 0, _ => by decide +kernel
    | 1, _ => by decide +kernel
    | k + 2, hk => absurd hk (Nat.not_lt.mpr (Nat.le_add_left 2 k)),
  by decide +kernel,
  fun _ => (zt_in (j := 1) (k := 105) rfl rfl), (zt_in (j := 1) (k := 4) rfl rfl),
  fun k hk => match k, hk with
    | 0, _ => fun _ => rfl
    | 1, _ => fun _ => rfl
    | k + 2, hk => absurd hk (Nat.not_lt.mpr (Nat.le_add_left 2 k))⟩
set_option maxRecDepth 100000 in
theorem zt_c8 : zt_cOK 8 ("ColumnVault$Groups", zt_T_TX3, 5) := ⟨fun k hk => match k, hk with
    | 0, _ => (zt_in (j := 1) (k := 172) rfl rfl)
    | 1, _ => (zt_in (j := 1) (k := 174) rfl rfl)
    | 2, _ => (zt_in (j := 1) (k := 176) rfl rfl)
    | 3, _ => (zt_in (j := 1) (k := 178) rfl rfl)
    | 4, _ => (zt_in (j := 1) (k := 180) rfl rfl)
    | k + 5, hk => absurd hk (Nat.not_lt.mpr (Nat.le_add_left 5 k)),
  fun k hk => match k, hk with
    | 0, _ => by decide +kernel
    | 1, _ => by decide +kernel
    | 2, _ => by decide +kernel
    | 3, _ => by decide +kernel
    | 4, _ => by decide +kernel
    | k + 5, hk => absurd hk (Nat.not_lt.mpr (Nat.le_add_left 5 k)),
  by decide +kernel,
  fun _ => (zt_in (j := 1) (k := 156) rfl rfl), (zt_in (j := 1) (k := 7) rfl rfl),
  fun k hk => match k, hk with
    | 0, _ => fun _ => rfl
    | 1, _ => fun _ => rfl
    | 2, _ => fun _ => rfl
    | 3, _ => fun _ => rfl
    | 4, _ => fun _ => rfl
    | k + 5, hk => absurd hk (Nat.not_lt.mpr (Nat.le_add_left 5 k))⟩
set_option maxRecDepth 100000 in
theorem zt_c9 : zt_cOK 9 ("ColumnVault$History", zt_T_TX4, 2) := ⟨fun k hk => match k, hk with
    | 0, _ => (zt_in (j := 1) (k := 99) rfl rfl)
    | 1, _ => (zt_in (j := 1) (k := 101) rfl rfl)
    | k + 2, hk => absurd hk (Nat.not_lt.mpr (Nat.le_add_left 2 k)),
  fun k hk => match k, hk with
    | 0, _ => by decide +kernel
    | 1, _ => by decide +kernel
    | k + 2, hk => absurd hk (Nat.not_lt.mpr (Nat.le_add_left 2 k)),
  by decide +kernel,
  fun _ => (zt_in (j := 1) (k := 51) rfl rfl), (zt_in (j := 1) (k := 2) rfl rfl),
  fun k hk => match k, hk with
    | 0, _ => fun _ => rfl
    | 1, _ => fun _ => rfl
    | k + 2, hk => absurd hk (Nat.not_lt.mpr (Nat.le_add_left 2 k))⟩
set_option maxRecDepth 100000 in
theorem zt_c10 : zt_cOK 10 ("ColumnVault$JoinWays", zt_T_TX5, 4) := ⟨fun k hk => match k, hk with
    | 0, _ => (zt_in (j := 5) (k := 23) rfl rfl)
    | 1, _ => (zt_in (j := 5) (k := 25) rfl rfl)
    | 2, _ => (zt_in (j := 5) (k := 27) rfl rfl)
    | 3, _ => (zt_in (j := 5) (k := 29) rfl rfl)
    | k + 4, hk => absurd hk (Nat.not_lt.mpr (Nat.le_add_left 4 k)),
  fun k hk => match k, hk with
    | 0, _ => by decide +kernel
    | 1, _ => by decide +kernel
    | 2, _ => by decide +kernel
    | 3, _ => by decide +kernel
    | k + 4, hk => absurd hk (Nat.not_lt.mpr (Nat.le_add_left 4 k)),
  by decide +kernel,
  fun _ => (zt_in (j := 5) (k := 14) rfl rfl), (zt_in (j := 1) (k := 38) rfl rfl),
  fun k hk => match k, hk with
    | 0, _ => fun _ => rfl
    | 1, _ => fun _ => rfl
    | 2, _ => fun _ => rfl
    | 3, _ => fun _ => rfl
    | k + 4, hk => absurd hk (Nat.not_lt.mpr (Nat.le_add_left 4 k))⟩
set_option maxRecDepth 100000 in
theorem zt_c11 : zt_cOK 11 ("ColumnVault$Node", zt_T_TX6, 7) := ⟨fun k hk => match k, hk with
    | 0, _ => (zt_in (j := 3) (k := 218) rfl rfl)
    | 1, _ => (zt_in (j := 3) (k := 220) rfl rfl)
    | 2, _ => (zt_in (j := 3) (k := 222) rfl rfl)
    | 3, _ => (zt_in (j := 3) (k := 224) rfl rfl)
    | 4, _ => (zt_in (j := 3) (k := 226) rfl rfl)
    | 5, _ => (zt_in (j := 3) (k := 228) rfl rfl)
    | 6, _ => (zt_in (j := 3) (k := 230) rfl rfl)
    | k + 7, hk => absurd hk (Nat.not_lt.mpr (Nat.le_add_left 7 k)),
  fun k hk => match k, hk with
    | 0, _ => by decide +kernel
    | 1, _ => by decide +kernel
    | 2, _ => by decide +kernel
    | 3, _ => by decide +kernel
    | 4, _ => by decide +kernel
    | 5, _ => by decide +kernel
    | 6, _ => by decide +kernel
    | k + 7, hk => absurd hk (Nat.not_lt.mpr (Nat.le_add_left 7 k)),
  by decide +kernel,
  fun _ => (zt_in (j := 3) (k := 200) rfl rfl), (zt_in (j := 1) (k := 32) rfl rfl),
  fun k hk => match k, hk with
    | 0, _ => fun _ => rfl
    | 1, _ => fun _ => rfl
    | 2, _ => fun _ => rfl
    | 3, _ => fun _ => rfl
    | 4, _ => fun _ => rfl
    | 5, _ => fun _ => rfl
    | 6, _ => fun _ => rfl
    | k + 7, hk => absurd hk (Nat.not_lt.mpr (Nat.le_add_left 7 k))⟩
set_option maxRecDepth 100000 in
theorem zt_c12 : zt_cOK 12 ("ColumnVault$Pairs", zt_T_TX7, 3) := ⟨fun k hk => match k, hk with
    | 0, _ => (zt_in (j := 1) (k := 148) rfl rfl)
    | 1, _ => (zt_in (j := 1) (k := 150) rfl rfl)
    | 2, _ => (zt_in (j := 1) (k := 152) rfl rfl)
    | k + 3, hk => absurd hk (Nat.not_lt.mpr (Nat.le_add_left 3 k)),
  fun k hk => match k, hk with
    | 0, _ => by decide +kernel
    | 1, _ => by decide +kernel
    | 2, _ => by decide +kernel
    | k + 3, hk => absurd hk (Nat.not_lt.mpr (Nat.le_add_left 3 k)),
  by decide +kernel,
  fun _ => (zt_in (j := 1) (k := 139) rfl rfl), (zt_in (j := 1) (k := 6) rfl rfl),
  fun k hk => match k, hk with
    | 0, _ => fun _ => rfl
    | 1, _ => fun _ => rfl
    | 2, _ => fun _ => rfl
    | k + 3, hk => absurd hk (Nat.not_lt.mpr (Nat.le_add_left 3 k))⟩
set_option maxRecDepth 100000 in
theorem zt_c13 : zt_cOK 13 ("ColumnVault$Sheet", zt_T_TX8, 6) := ⟨fun k hk => match k, hk with
    | 0, _ => (zt_in (j := 1) (k := 81) rfl rfl)
    | 1, _ => (zt_in (j := 1) (k := 83) rfl rfl)
    | 2, _ => (zt_in (j := 1) (k := 85) rfl rfl)
    | 3, _ => (zt_in (j := 1) (k := 87) rfl rfl)
    | 4, _ => (zt_in (j := 1) (k := 89) rfl rfl)
    | 5, _ => (zt_in (j := 1) (k := 91) rfl rfl)
    | k + 6, hk => absurd hk (Nat.not_lt.mpr (Nat.le_add_left 6 k)),
  fun k hk => match k, hk with
    | 0, _ => by decide +kernel
    | 1, _ => by decide +kernel
    | 2, _ => by decide +kernel
    | 3, _ => by decide +kernel
    | 4, _ => by decide +kernel
    | 5, _ => by decide +kernel
    | k + 6, hk => absurd hk (Nat.not_lt.mpr (Nat.le_add_left 6 k)),
  by decide +kernel,
  fun _ => (zt_in (j := 1) (k := 58) rfl rfl), (zt_in (j := 1) (k := 3) rfl rfl),
  fun k hk => match k, hk with
    | 0, _ => fun _ => rfl
    | 1, _ => fun _ => rfl
    | 2, _ => fun _ => rfl
    | 3, _ => fun _ => rfl
    | 4, _ => fun _ => rfl
    | 5, _ => fun _ => rfl
    | k + 6, hk => absurd hk (Nat.not_lt.mpr (Nat.le_add_left 6 k))⟩
set_option maxRecDepth 100000 in
theorem zt_c14 : zt_cOK 14 ("ColumnVault$Tokens", zt_T_TX9, 4) := ⟨fun k hk => match k, hk with
    | 0, _ => (zt_in (j := 1) (k := 129) rfl rfl)
    | 1, _ => (zt_in (j := 1) (k := 131) rfl rfl)
    | 2, _ => (zt_in (j := 1) (k := 133) rfl rfl)
    | 3, _ => (zt_in (j := 1) (k := 135) rfl rfl)
    | k + 4, hk => absurd hk (Nat.not_lt.mpr (Nat.le_add_left 4 k)),
  fun k hk => match k, hk with
    | 0, _ => by decide +kernel
    | 1, _ => by decide +kernel
    | 2, _ => by decide +kernel
    | 3, _ => by decide +kernel
    | k + 4, hk => absurd hk (Nat.not_lt.mpr (Nat.le_add_left 4 k)),
  by decide +kernel,
  fun _ => (zt_in (j := 1) (k := 120) rfl rfl), (zt_in (j := 1) (k := 5) rfl rfl),
  fun k hk => match k, hk with
    | 0, _ => fun _ => rfl
    | 1, _ => fun _ => rfl
    | 2, _ => fun _ => rfl
    | 3, _ => fun _ => rfl
    | k + 4, hk => absurd hk (Nat.not_lt.mpr (Nat.le_add_left 4 k))⟩
set_option maxRecDepth 100000 in
theorem zt_c15 : zt_cOK 15 ("ColumnVault", zt_T_TX10, 6) := ⟨fun k hk => match k, hk with
    | 0, _ => (zt_in (j := 1) (k := 209) rfl rfl)
    | 1, _ => (zt_in (j := 1) (k := 211) rfl rfl)
    | 2, _ => (zt_in (j := 1) (k := 213) rfl rfl)
    | 3, _ => (zt_in (j := 1) (k := 215) rfl rfl)
    | 4, _ => (zt_in (j := 1) (k := 217) rfl rfl)
    | 5, _ => (zt_in (j := 1) (k := 219) rfl rfl)
    | k + 6, hk => absurd hk (Nat.not_lt.mpr (Nat.le_add_left 6 k)),
  fun k hk => match k, hk with
    | 0, _ => by decide +kernel
    | 1, _ => by decide +kernel
    | 2, _ => by decide +kernel
    | 3, _ => by decide +kernel
    | 4, _ => by decide +kernel
    | 5, _ => by decide +kernel
    | k + 6, hk => absurd hk (Nat.not_lt.mpr (Nat.le_add_left 6 k)),
  by decide +kernel,
  fun _ => (zt_in (j := 1) (k := 43) rfl rfl), (zt_in (j := 1) (k := 1) rfl rfl),
  fun k hk => match k, hk with
    | 0, _ => fun _ => rfl
    | 1, _ => fun _ => rfl
    | 2, _ => fun _ => rfl
    | 3, _ => fun _ => rfl
    | 4, _ => fun _ => rfl
    | 5, _ => fun _ => rfl
    | k + 6, hk => absurd hk (Nat.not_lt.mpr (Nat.le_add_left 6 k))⟩
set_option maxRecDepth 100000 in
theorem zt_c16 : zt_cOK 16 ("ColumnVaultModel$Node", zt_T_TX11, 4) := ⟨fun k hk => match k, hk with
    | 0, _ => (zt_in (j := 8) (k := 94) rfl rfl)
    | 1, _ => (zt_in (j := 8) (k := 96) rfl rfl)
    | 2, _ => (zt_in (j := 8) (k := 98) rfl rfl)
    | 3, _ => (zt_in (j := 8) (k := 100) rfl rfl)
    | k + 4, hk => absurd hk (Nat.not_lt.mpr (Nat.le_add_left 4 k)),
  fun k hk => match k, hk with
    | 0, _ => by decide +kernel
    | 1, _ => by decide +kernel
    | 2, _ => by decide +kernel
    | 3, _ => by decide +kernel
    | k + 4, hk => absurd hk (Nat.not_lt.mpr (Nat.le_add_left 4 k)),
  by decide +kernel,
  fun _ => (zt_in (j := 8) (k := 79) rfl rfl), (zt_in (j := 1) (k := 33) rfl rfl),
  fun k hk => match k, hk with
    | 0, _ => fun _ => rfl
    | 1, _ => fun _ => rfl
    | 2, _ => fun _ => rfl
    | 3, _ => fun _ => rfl
    | k + 4, hk => absurd hk (Nat.not_lt.mpr (Nat.le_add_left 4 k))⟩
set_option maxRecDepth 100000 in
theorem zt_c17 : zt_cOK 17 ("ColumnVaultModel$Table", zt_T_TX12, 4) := ⟨fun k hk => match k, hk with
    | 0, _ => (zt_in (j := 6) (k := 143) rfl rfl)
    | 1, _ => (zt_in (j := 6) (k := 145) rfl rfl)
    | 2, _ => (zt_in (j := 6) (k := 147) rfl rfl)
    | 3, _ => (zt_in (j := 6) (k := 149) rfl rfl)
    | k + 4, hk => absurd hk (Nat.not_lt.mpr (Nat.le_add_left 4 k)),
  fun k hk => match k, hk with
    | 0, _ => by decide +kernel
    | 1, _ => by decide +kernel
    | 2, _ => by decide +kernel
    | 3, _ => by decide +kernel
    | k + 4, hk => absurd hk (Nat.not_lt.mpr (Nat.le_add_left 4 k)),
  by decide +kernel,
  fun _ => (zt_in (j := 6) (k := 104) rfl rfl), (zt_in (j := 1) (k := 10) rfl rfl),
  fun k hk => match k, hk with
    | 0, _ => fun _ => rfl
    | 1, _ => fun _ => rfl
    | 2, _ => fun _ => rfl
    | 3, _ => fun _ => rfl
    | k + 4, hk => absurd hk (Nat.not_lt.mpr (Nat.le_add_left 4 k))⟩
set_option maxRecDepth 100000 in
theorem zt_c18 : zt_cOK 18 ("ColumnVaultModel", zt_T_TX13, 16) := ⟨fun k hk => match k, hk with
    | 0, _ => (zt_in (j := 7) (k := 43) rfl rfl)
    | 1, _ => (zt_in (j := 7) (k := 45) rfl rfl)
    | 2, _ => (zt_in (j := 7) (k := 47) rfl rfl)
    | 3, _ => (zt_in (j := 7) (k := 49) rfl rfl)
    | 4, _ => (zt_in (j := 7) (k := 51) rfl rfl)
    | 5, _ => (zt_in (j := 7) (k := 53) rfl rfl)
    | 6, _ => (zt_in (j := 7) (k := 55) rfl rfl)
    | 7, _ => (zt_in (j := 7) (k := 57) rfl rfl)
    | 8, _ => (zt_in (j := 7) (k := 59) rfl rfl)
    | 9, _ => (zt_in (j := 7) (k := 61) rfl rfl)
    | 10, _ => (zt_in (j := 7) (k := 63) rfl rfl)
    | 11, _ => (zt_in (j := 7) (k := 65) rfl rfl)
    | 12, _ => (zt_in (j := 7) (k := 67) rfl rfl)
    | 13, _ => (zt_in (j := 7) (k := 69) rfl rfl)
    | 14, _ => (zt_in (j := 7) (k := 71) rfl rfl)
    | 15, _ => (zt_in (j := 7) (k := 73) rfl rfl)
    | k + 16, hk => absurd hk (Nat.not_lt.mpr (Nat.le_add_left 16 k)),
  fun k hk => match k, hk with
    | 0, _ => by decide +kernel
    | 1, _ => by decide +kernel
    | 2, _ => by decide +kernel
    | 3, _ => by decide +kernel
    | 4, _ => by decide +kernel
    | 5, _ => by decide +kernel
    | 6, _ => by decide +kernel
    | 7, _ => by decide +kernel
    | 8, _ => by decide +kernel
    | 9, _ => by decide +kernel
    | 10, _ => by decide +kernel
    | 11, _ => by decide +kernel
    | 12, _ => by decide +kernel
    | 13, _ => by decide +kernel
    | 14, _ => by decide +kernel
    | 15, _ => by decide +kernel
    | k + 16, hk => absurd hk (Nat.not_lt.mpr (Nat.le_add_left 16 k)),
  by decide +kernel,
  fun _ => (zt_in (j := 6) (k := 97) rfl rfl), (zt_in (j := 1) (k := 9) rfl rfl),
  fun k hk => match k, hk with
    | 0, _ => fun _ => rfl
    | 1, _ => fun _ => rfl
    | 2, _ => fun _ => rfl
    | 3, _ => fun _ => rfl
    | 4, _ => fun _ => rfl
    | 5, _ => fun _ => rfl
    | 6, _ => fun _ => rfl
    | 7, _ => fun _ => rfl
    | 8, _ => fun _ => rfl
    | 9, _ => fun _ => rfl
    | 10, _ => fun _ => rfl
    | 11, _ => fun _ => rfl
    | 12, _ => fun _ => rfl
    | 13, _ => fun _ => rfl
    | 14, _ => fun _ => rfl
    | 15, _ => fun _ => rfl
    | k + 16, hk => absurd hk (Nat.not_lt.mpr (Nat.le_add_left 16 k))⟩
set_option maxRecDepth 100000 in
theorem zt_c19 : zt_cOK 19 ("java/lang/IndexOutOfBoundsException", fun _ => ("", "", "", false), 0) := ⟨fun k hk => absurd hk (Nat.not_lt_zero k), fun k hk => absurd hk (Nat.not_lt_zero k), fun k hk => absurd hk (Nat.not_lt_zero k), fun h => absurd h (by decide), (zt_in (j := 1) (k := 23) rfl rfl), fun k hk => absurd hk (Nat.not_lt_zero k)⟩
set_option maxRecDepth 100000 in
theorem zt_c20 : zt_cOK 20 ("java/lang/IllegalArgumentException", fun _ => ("", "", "", false), 0) := ⟨fun k hk => absurd hk (Nat.not_lt_zero k), fun k hk => absurd hk (Nat.not_lt_zero k), fun k hk => absurd hk (Nat.not_lt_zero k), fun h => absurd h (by decide), (zt_in (j := 1) (k := 24) rfl rfl), fun k hk => absurd hk (Nat.not_lt_zero k)⟩
set_option maxRecDepth 100000 in
theorem zt_c21 : zt_cOK 21 ("java/lang/IllegalStateException", fun _ => ("", "", "", false), 0) := ⟨fun k hk => absurd hk (Nat.not_lt_zero k), fun k hk => absurd hk (Nat.not_lt_zero k), fun k hk => absurd hk (Nat.not_lt_zero k), fun h => absurd h (by decide), (zt_in (j := 1) (k := 25) rfl rfl), fun k hk => absurd hk (Nat.not_lt_zero k)⟩
set_option maxRecDepth 100000 in
theorem zt_c22 : zt_cOK 22 ("java/util/NoSuchElementException", fun _ => ("", "", "", false), 0) := ⟨fun k hk => absurd hk (Nat.not_lt_zero k), fun k hk => absurd hk (Nat.not_lt_zero k), fun k hk => absurd hk (Nat.not_lt_zero k), fun h => absurd h (by decide), (zt_in (j := 1) (k := 41) rfl rfl), fun k hk => absurd hk (Nat.not_lt_zero k)⟩
theorem zt_cl_ok {ci : Nat} {r : vw_C} (h : zt_cl[ci]? = some r) : zt_cOK ci r := by
  match ci, h with
  | 0, h => cases h; exact zt_c0
  | 1, h => cases h; exact zt_c1
  | 2, h => cases h; exact zt_c2
  | 3, h => cases h; exact zt_c3
  | 4, h => cases h; exact zt_c4
  | 5, h => cases h; exact zt_c5
  | 6, h => cases h; exact zt_c6
  | 7, h => cases h; exact zt_c7
  | 8, h => cases h; exact zt_c8
  | 9, h => cases h; exact zt_c9
  | 10, h => cases h; exact zt_c10
  | 11, h => cases h; exact zt_c11
  | 12, h => cases h; exact zt_c12
  | 13, h => cases h; exact zt_c13
  | 14, h => cases h; exact zt_c14
  | 15, h => cases h; exact zt_c15
  | 16, h => cases h; exact zt_c16
  | 17, h => cases h; exact zt_c17
  | 18, h => cases h; exact zt_c18
  | 19, h => cases h; exact zt_c19
  | 20, h => cases h; exact zt_c20
  | 21, h => cases h; exact zt_c21
  | 22, h => cases h; exact zt_c22
  | k + 23, h => exact absurd h (by simp [zt_cl])
set_option maxRecDepth 100000 in
theorem zt_obj : Cond.instanceMethod objectInit ∈ zt_good ∧ Cond.code objectInit ⟨#[0xb1]⟩ 1 none ∈ zt_good := ⟨(zt_in (j := 1) (k := 48) rfl rfl), (zt_in (j := 1) (k := 49) rfl rfl)⟩
set_option maxRecDepth 100000 in
theorem zt_on_ok : ∀ c ∈ zt_on, (c ≠ "java/lang/invoke/MethodHandle" ∧ c ≠ "java/lang/invoke/VarHandle") ∧ (plainName c = true ∨ c ∈ ["java/lang/Math", "java/lang/Object"]) := by decide +kernel
theorem zt_xsz {ci : Nat} {r : vw_C} (h : zt_cl[ci]? = some r) (hc : zt_x0 ≤ ci) : r.2.2 = 0 ∧ zt_sz.getD ci 0 = 6 := by
  match ci, h with
  | 0, h => exact absurd hc (by decide)
  | 1, h => exact absurd hc (by decide)
  | 2, h => exact absurd hc (by decide)
  | 3, h => exact absurd hc (by decide)
  | 4, h => exact absurd hc (by decide)
  | 5, h => exact absurd hc (by decide)
  | 6, h => exact absurd hc (by decide)
  | 7, h => exact absurd hc (by decide)
  | 8, h => exact absurd hc (by decide)
  | 9, h => exact absurd hc (by decide)
  | 10, h => exact absurd hc (by decide)
  | 11, h => exact absurd hc (by decide)
  | 12, h => exact absurd hc (by decide)
  | 13, h => exact absurd hc (by decide)
  | 14, h => exact absurd hc (by decide)
  | 15, h => exact absurd hc (by decide)
  | 16, h => exact absurd hc (by decide)
  | 17, h => exact absurd hc (by decide)
  | 18, h => exact absurd hc (by decide)
  | 19, h => cases h; exact ⟨rfl, rfl⟩
  | 20, h => cases h; exact ⟨rfl, rfl⟩
  | 21, h => cases h; exact ⟨rfl, rfl⟩
  | 22, h => cases h; exact ⟨rfl, rfl⟩
  | k + 23, h => exact absurd h (by simp [zt_cl])
theorem zt_cast : ∀ (ci : Nat) (r : vw_C), zt_x0 ≤ ci → zt_cl[ci]? = some r → Cond.castable r.1 r.1 ∈ zt_nw := by
  intro ci r hc h
  match ci, h with
  | 0, h => exact absurd hc (by decide)
  | 1, h => exact absurd hc (by decide)
  | 2, h => exact absurd hc (by decide)
  | 3, h => exact absurd hc (by decide)
  | 4, h => exact absurd hc (by decide)
  | 5, h => exact absurd hc (by decide)
  | 6, h => exact absurd hc (by decide)
  | 7, h => exact absurd hc (by decide)
  | 8, h => exact absurd hc (by decide)
  | 9, h => exact absurd hc (by decide)
  | 10, h => exact absurd hc (by decide)
  | 11, h => exact absurd hc (by decide)
  | 12, h => exact absurd hc (by decide)
  | 13, h => exact absurd hc (by decide)
  | 14, h => exact absurd hc (by decide)
  | 15, h => exact absurd hc (by decide)
  | 16, h => exact absurd hc (by decide)
  | 17, h => exact absurd hc (by decide)
  | 18, h => exact absurd hc (by decide)
  | 19, h => cases h; exact (zt_inN (j := 2) (k := 10) rfl rfl)
  | 20, h => cases h; exact (zt_inN (j := 2) (k := 79) rfl rfl)
  | 21, h => cases h; exact (zt_inN (j := 2) (k := 95) rfl rfl)
  | 22, h => cases h; exact (zt_inN (j := 5) (k := 157) rfl rfl)
  | k + 23, h => exact absurd h (by simp [zt_cl])
theorem zt_cobj : ∀ (ci : Nat) (r : vw_C), ci < zt_x0 → zt_cl[ci]? = some r → Cond.castable r.1 "java/lang/Object" ∈ zt_nw := by
  intro ci r hc h
  match ci, h with
  | 0, h => cases h; exact (zt_inN (j := 10) (k := 193) rfl rfl)
  | 1, h => cases h; exact (zt_inN (j := 10) (k := 192) rfl rfl)
  | 2, h => cases h; exact (zt_inN (j := 10) (k := 173) rfl rfl)
  | 3, h => cases h; exact (zt_inN (j := 10) (k := 174) rfl rfl)
  | 4, h => cases h; exact (zt_inN (j := 10) (k := 183) rfl rfl)
  | 5, h => cases h; exact (zt_inN (j := 10) (k := 181) rfl rfl)
  | 6, h => cases h; exact (zt_inN (j := 10) (k := 188) rfl rfl)
  | 7, h => cases h; exact (zt_inN (j := 10) (k := 177) rfl rfl)
  | 8, h => cases h; exact (zt_inN (j := 10) (k := 180) rfl rfl)
  | 9, h => cases h; exact (zt_inN (j := 10) (k := 176) rfl rfl)
  | 10, h => cases h; exact (zt_inN (j := 10) (k := 191) rfl rfl)
  | 11, h => cases h; exact (zt_inN (j := 10) (k := 189) rfl rfl)
  | 12, h => cases h; exact (zt_inN (j := 10) (k := 179) rfl rfl)
  | 13, h => cases h; exact (zt_inN (j := 10) (k := 171) rfl rfl)
  | 14, h => cases h; exact (zt_inN (j := 10) (k := 178) rfl rfl)
  | 15, h => cases h; exact (zt_inN (j := 10) (k := 175) rfl rfl)
  | 16, h => cases h; exact (zt_inN (j := 10) (k := 190) rfl rfl)
  | 17, h => cases h; exact (zt_inN (j := 10) (k := 172) rfl rfl)
  | 18, h => cases h; exact (zt_inN (j := 10) (k := 182) rfl rfl)
  | 19, h => exact absurd hc (by decide)
  | 20, h => exact absurd hc (by decide)
  | 21, h => exact absurd hc (by decide)
  | 22, h => exact absurd hc (by decide)
  | k + 23, h => exact absurd h (by simp [zt_cl])
theorem zt_aobj : ∀ (t : Nat) (ty : FieldType), zt_at[t]? = some ty → ∃ nm, nm = "[" ++ ty.toString ∧ Cond.castable nm "java/lang/Object" ∈ zt_nw := by
  intro t ty h
  match t, h with
  | 0, h => cases h; exact ⟨"[LColumnVault$Sheet;", by decide +kernel, (zt_inN (j := 10) (k := 199) rfl rfl)⟩
  | 1, h => cases h; exact ⟨"[I", by decide +kernel, (zt_inN (j := 10) (k := 200) rfl rfl)⟩
  | 2, h => cases h; exact ⟨"[J", by decide +kernel, (zt_inN (j := 10) (k := 201) rfl rfl)⟩
  | 3, h => cases h; exact ⟨"[B", by decide +kernel, (zt_inN (j := 10) (k := 202) rfl rfl)⟩
  | 4, h => cases h; exact ⟨"[LColumnVaultModel$Table;", by decide +kernel, (zt_inN (j := 10) (k := 203) rfl rfl)⟩
  | 5, h => cases h; exact ⟨"[Ljava/lang/Object;", by decide +kernel, (zt_inN (j := 10) (k := 204) rfl rfl)⟩
  | 6, h => cases h; exact ⟨"[Z", by decide +kernel, (zt_inN (j := 10) (k := 205) rfl rfl)⟩
  | 7, h => cases h; exact ⟨"[D", by decide +kernel, (zt_inN (j := 10) (k := 206) rfl rfl)⟩
  | k + 8, h => exact absurd h (by simp [zt_at])
theorem zt_xobj : ∀ (C : String), C ∈ (["java/lang/Boolean", "java/lang/Integer", "java/lang/Long", "java/lang/String"] : List String) → Cond.castable C "java/lang/Object" ∈ zt_nw := by
  intro C h
  simp only [List.mem_cons, List.not_mem_nil, or_false] at h
  rcases h with rfl | rfl | rfl | rfl
  · exact (zt_inN (j := 10) (k := 187) rfl rfl)
  · exact (zt_inN (j := 10) (k := 173) rfl rfl)
  · exact (zt_inN (j := 10) (k := 174) rfl rfl)
  · exact (zt_inN (j := 10) (k := 193) rfl rfl)
theorem zt_ext_obj : ∀ (j : Nat) (C : String) (o : Nat × List Value), zt_ext j = some (.object C, .inr o) → C ∈ (["java/lang/Boolean", "java/lang/Integer", "java/lang/Long", "java/lang/String"] : List String) := by
  intro j C o h
  unfold zt_ext at h
  by_cases hh : j = 0
  · rw [if_pos hh] at h; cases h
  rw [if_neg hh] at h
  clear hh
  by_cases hh : j = 1 ∨ j = 2
  · rw [if_pos hh] at h; cases h; simp
  rw [if_neg hh] at h
  clear hh
  by_cases hh : j = 3
  · rw [if_pos hh] at h; cases h
  rw [if_neg hh] at h
  clear hh
  by_cases hh : j = 4
  · rw [if_pos hh] at h; cases h
  rw [if_neg hh] at h
  clear hh
  by_cases hh : 10 ≤ j ∧ j < 266
  · rw [if_pos hh] at h; cases h; simp
  rw [if_neg hh] at h
  clear hh
  by_cases hh : 300 ≤ j ∧ j < 556
  · rw [if_pos hh] at h; cases h; simp
  rw [if_neg hh] at h
  clear hh
  by_cases hh : j = 600
  · rw [if_pos hh] at h; cases h; simp
  rw [if_neg hh] at h
  clear hh
  by_cases hh : j = 601
  · rw [if_pos hh] at h; cases h
  rw [if_neg hh] at h
  clear hh
  by_cases hh : j = 602
  · rw [if_pos hh] at h; cases h; simp
  rw [if_neg hh] at h
  clear hh
  by_cases hh : j = 603
  · rw [if_pos hh] at h; cases h
  rw [if_neg hh] at h
  clear hh
  by_cases hh : j = 604
  · rw [if_pos hh] at h; cases h; simp
  rw [if_neg hh] at h
  clear hh
  by_cases hh : j = 605
  · rw [if_pos hh] at h; cases h
  rw [if_neg hh] at h
  clear hh
  by_cases hh : j = 606
  · rw [if_pos hh] at h; cases h; simp
  rw [if_neg hh] at h
  clear hh
  by_cases hh : j = 607
  · rw [if_pos hh] at h; cases h
  rw [if_neg hh] at h
  clear hh
  by_cases hh : j = 608
  · rw [if_pos hh] at h; cases h; simp
  rw [if_neg hh] at h
  clear hh
  by_cases hh : j = 609
  · rw [if_pos hh] at h; cases h
  rw [if_neg hh] at h
  clear hh
  by_cases hh : j = 610
  · rw [if_pos hh] at h; cases h; simp
  rw [if_neg hh] at h
  clear hh
  by_cases hh : j = 611
  · rw [if_pos hh] at h; cases h
  rw [if_neg hh] at h
  clear hh
  by_cases hh : j = 612
  · rw [if_pos hh] at h; cases h; simp
  rw [if_neg hh] at h
  clear hh
  by_cases hh : j = 613
  · rw [if_pos hh] at h; cases h
  rw [if_neg hh] at h
  clear hh
  by_cases hh : j = 614
  · rw [if_pos hh] at h; cases h; simp
  rw [if_neg hh] at h
  clear hh
  by_cases hh : j = 615
  · rw [if_pos hh] at h; cases h
  rw [if_neg hh] at h
  clear hh
  by_cases hh : j = 616
  · rw [if_pos hh] at h; cases h; simp
  rw [if_neg hh] at h
  clear hh
  by_cases hh : j = 617
  · rw [if_pos hh] at h; cases h
  rw [if_neg hh] at h
  clear hh
  cases h
theorem zt_bool1 (h : (zt_ext 1).isSome = true) : zt_ext 1 = some (.object "java/lang/Boolean", .inr (999, [])) := by
  rfl
theorem zt_bool2 (h : (zt_ext 2).isSome = true) : zt_ext 2 = some (.object "java/lang/Boolean", .inr (999, [])) := by
  rfl
theorem zt_objT_ok (h : zt_objT ≠ 999) : zt_at[zt_objT]? = some (.object "java/lang/Object") := by
  rfl
theorem zt_pln_ok {oc : Nat} {own : String} (ho : zt_on[oc]? = some own) (h : zt_pln[oc]? = some true) : plainName own = true := by
  match oc, ho, h with
  | 0, ho, h => cases ho; decide +kernel
  | 1, ho, h => cases ho; decide +kernel
  | 2, ho, h => cases ho; decide +kernel
  | 3, ho, h => cases ho; decide +kernel
  | 4, ho, h => cases ho; decide +kernel
  | 5, ho, h => cases ho; decide +kernel
  | 6, ho, h => cases ho; decide +kernel
  | 7, ho, h => cases ho; decide +kernel
  | 8, ho, h => cases ho; decide +kernel
  | 9, ho, h => cases ho; decide +kernel
  | 10, ho, h => cases ho; decide +kernel
  | 11, ho, h => cases ho; decide +kernel
  | 12, ho, h => cases ho; decide +kernel
  | 13, ho, h => cases ho; decide +kernel
  | 14, ho, h => cases ho; decide +kernel
  | 15, ho, h => cases ho; decide +kernel
  | 16, ho, h => cases ho; decide +kernel
  | 17, ho, h => cases ho; decide +kernel
  | 18, ho, h => cases ho; decide +kernel
  | 19, ho, h => cases ho; decide +kernel
  | 20, ho, h => cases ho; decide +kernel
  | 21, ho, h => cases ho; decide +kernel
  | 22, ho, h => cases ho; decide +kernel
  | 23, ho, h => cases ho; decide +kernel
  | 24, ho, h => cases h
  | 25, ho, h => cases ho; decide +kernel
  | 26, ho, h => cases ho; decide +kernel
  | 27, ho, h => cases ho; decide +kernel
  | 28, ho, h => cases ho; decide +kernel
  | 29, ho, h => cases ho; decide +kernel
  | 30, ho, h => cases ho; decide +kernel
  | 31, ho, h => cases ho; decide +kernel
  | 32, ho, h => cases ho; decide +kernel
  | 33, ho, h => cases ho; decide +kernel
  | 34, ho, h => cases ho; decide +kernel
  | 35, ho, h => cases ho; decide +kernel
  | k + 36, ho, h => exact absurd ho (by simp [zt_on])
/-- a method: its code's word, its class's, static or not -/
def zt_mOK (q : zx_M) : Prop := match q with
  | (y, cc, nL, ret, hh, oc, np, _, hs, hsel, _) => (if hh = [] then Cond.code y cc nL ret else Cond.codeWith y cc nL ret hh) ∈ zt_good ∧ zt_on[oc]? = some y.cls ∧ Cond.initialized y.cls ∈ zt_good ∧
    (if hs = 1 then Cond.static y else Cond.instanceMethod y) ∈ zt_good ∧ (hsel = 99999 ∨ Cond.selects y.cls y y ∈ zt_good) ∧ (parseMethodDescriptor y.desc).map (fun d => (d.parameters.length, d.returnType)) = some (np, ret) ∧ nL ≤ 31 ∧ (hs = 2 → y.name = "<init>")
set_option maxRecDepth 100000 in
theorem zt_m_1 : zt_mOK (⟨"ColumnVault", "<init>", "()V"⟩, prog_1_method_1_code, 1, none, [], 15, 0, 0, 2, 99999, 0) := ⟨(zt_in (j := 1) (k := 46) rfl rfl), rfl, (zt_in (j := 1) (k := 1) rfl rfl), (zt_in (j := 1) (k := 45) rfl rfl), Or.inl rfl, by decide +kernel, by decide, fun _ => rfl⟩
set_option maxRecDepth 100000 in
theorem zt_m_2 : zt_mOK (⟨"ColumnVault$History", "<init>", "()V"⟩, prog_6_method_1_code, 2, none, [], 9, 0, 0, 2, 99999, 0) := ⟨(zt_in (j := 1) (k := 54) rfl rfl), rfl, (zt_in (j := 1) (k := 2) rfl rfl), (zt_in (j := 1) (k := 53) rfl rfl), Or.inl rfl, by decide +kernel, by decide, fun _ => rfl⟩
set_option maxRecDepth 100000 in
theorem zt_m_3 : zt_mOK (⟨"ColumnVault$Sheet", "<init>", "()V"⟩, prog_10_method_1_code, 1, none, [], 13, 0, 0, 2, 99999, 0) := ⟨(zt_in (j := 1) (k := 61) rfl rfl), rfl, (zt_in (j := 1) (k := 3) rfl rfl), (zt_in (j := 1) (k := 60) rfl rfl), Or.inl rfl, by decide +kernel, by decide, fun _ => rfl⟩
set_option maxRecDepth 100000 in
theorem zt_m_4 : zt_mOK (⟨"ColumnVault$FilterText", "<init>", "()V"⟩, prog_4_method_1_code, 1, none, [], 7, 0, 0, 2, 99999, 0) := ⟨(zt_in (j := 1) (k := 108) rfl rfl), rfl, (zt_in (j := 1) (k := 4) rfl rfl), (zt_in (j := 1) (k := 107) rfl rfl), Or.inl rfl, by decide +kernel, by decide, fun _ => rfl⟩
set_option maxRecDepth 100000 in
theorem zt_m_5 : zt_mOK (⟨"ColumnVault$Tokens", "<init>", "()V"⟩, prog_11_method_1_code, 1, none, [], 14, 0, 0, 2, 99999, 0) := ⟨(zt_in (j := 1) (k := 123) rfl rfl), rfl, (zt_in (j := 1) (k := 5) rfl rfl), (zt_in (j := 1) (k := 122) rfl rfl), Or.inl rfl, by decide +kernel, by decide, fun _ => rfl⟩
set_option maxRecDepth 100000 in
theorem zt_m_6 : zt_mOK (⟨"ColumnVault$Pairs", "<init>", "()V"⟩, prog_9_method_1_code, 1, none, [], 12, 0, 0, 2, 99999, 0) := ⟨(zt_in (j := 1) (k := 142) rfl rfl), rfl, (zt_in (j := 1) (k := 6) rfl rfl), (zt_in (j := 1) (k := 141) rfl rfl), Or.inl rfl, by decide +kernel, by decide, fun _ => rfl⟩
set_option maxRecDepth 100000 in
theorem zt_m_7 : zt_mOK (⟨"ColumnVault$Groups", "<init>", "()V"⟩, prog_5_method_1_code, 1, none, [], 8, 0, 0, 2, 99999, 0) := ⟨(zt_in (j := 1) (k := 159) rfl rfl), rfl, (zt_in (j := 1) (k := 7) rfl rfl), (zt_in (j := 1) (k := 158) rfl rfl), Or.inl rfl, by decide +kernel, by decide, fun _ => rfl⟩
set_option maxRecDepth 100000 in
theorem zt_m_8 : zt_mOK (⟨"ColumnVault$Checks", "<init>", "()V"⟩, prog_2_method_1_code, 1, none, [], 5, 0, 0, 2, 99999, 0) := ⟨(zt_in (j := 1) (k := 187) rfl rfl), rfl, (zt_in (j := 1) (k := 8) rfl rfl), (zt_in (j := 1) (k := 186) rfl rfl), Or.inl rfl, by decide +kernel, by decide, fun _ => rfl⟩
set_option maxRecDepth 100000 in
theorem zt_m_9 : zt_mOK (⟨"ColumnVault", "version", "()I"⟩, prog_1_method_10_code, 1, some (.int), [], 15, 0, 0, 0, 0, 0) := ⟨(zt_in (j := 1) (k := 225) rfl rfl), rfl, (zt_in (j := 1) (k := 1) rfl rfl), (zt_in (j := 1) (k := 223) rfl rfl), Or.inr (zt_in (j := 1) (k := 224) rfl rfl), by decide +kernel, by decide, fun h => absurd h (by decide)⟩
set_option maxRecDepth 100000 in
theorem zt_m_10 : zt_mOK (⟨"ColumnVault", "clearText", "()I"⟩, prog_1_method_23_code, 2, some (.int), [], 15, 0, 0, 0, 0, 0) := ⟨(zt_in (j := 1) (k := 229) rfl rfl), rfl, (zt_in (j := 1) (k := 1) rfl rfl), (zt_in (j := 1) (k := 227) rfl rfl), Or.inr (zt_in (j := 1) (k := 228) rfl rfl), by decide +kernel, by decide, fun h => absurd h (by decide)⟩
set_option maxRecDepth 100000 in
theorem zt_m_11 : zt_mOK (⟨"ColumnVaultLaw", "addColumn", "(LColumnVault;II[J)I"⟩, method_3_code, 5, some (.int), [(0, 10, 13, 13), (0, 10, 17, 15), (0, 10, 21, 17)], 23, 4, 0, 1, 99999, 0) := ⟨(zt_in (j := 1) (k := 232) rfl rfl), rfl, (zt_in (j := 1) (k := 0) rfl rfl), (zt_in (j := 1) (k := 231) rfl rfl), Or.inl rfl, by decide +kernel, by decide, fun h => absurd h (by decide)⟩
set_option maxRecDepth 100000 in
theorem zt_m_12 : zt_mOK (⟨"ColumnVault", "addColumn", "(II)I"⟩, prog_1_method_2_code, 4, some (.int), [], 15, 2, 0, 0, 0, 0) := ⟨(zt_in (j := 1) (k := 239) rfl rfl), rfl, (zt_in (j := 1) (k := 1) rfl rfl), (zt_in (j := 1) (k := 237) rfl rfl), Or.inr (zt_in (j := 1) (k := 238) rfl rfl), by decide +kernel, by decide, fun h => absurd h (by decide)⟩
set_option maxRecDepth 100000 in
theorem zt_m_13 : zt_mOK (⟨"ColumnVault", "sheetOf", "(I)LColumnVault$Sheet;"⟩, prog_1_method_41_code, 3, some (.object "ColumnVault$Sheet"), [], 15, 1, 0, 0, 0, 0) := ⟨(zt_in (j := 2) (k := 3) rfl rfl), rfl, (zt_in (j := 1) (k := 1) rfl rfl), (zt_in (j := 2) (k := 2) rfl rfl), Or.inr (zt_in (j := 0) (k := 0) rfl rfl), by decide +kernel, by decide, fun h => absurd h (by decide)⟩
set_option maxRecDepth 100000 in
theorem zt_m_14 : zt_mOK (⟨"ColumnVault$History", "sheetIn", "(II)LColumnVault$Sheet;"⟩, prog_6_method_3_code, 3, some (.object "ColumnVault$Sheet"), [], 9, 2, 0, 0, 0, 0) := ⟨(zt_in (j := 2) (k := 7) rfl rfl), rfl, (zt_in (j := 1) (k := 2) rfl rfl), (zt_in (j := 2) (k := 5) rfl rfl), Or.inr (zt_in (j := 2) (k := 6) rfl rfl), by decide +kernel, by decide, fun h => absurd h (by decide)⟩
set_option maxRecDepth 100000 in
theorem zt_m_15 : zt_mOK (⟨"ColumnVault", "nextSheetOf", "(I)LColumnVault$Sheet;"⟩, prog_1_method_43_code, 2, some (.object "ColumnVault$Sheet"), [], 15, 1, 0, 0, 0, 0) := ⟨(zt_in (j := 2) (k := 112) rfl rfl), rfl, (zt_in (j := 1) (k := 1) rfl rfl), (zt_in (j := 2) (k := 111) rfl rfl), Or.inr (zt_in (j := 0) (k := 2) rfl rfl), by decide +kernel, by decide, fun h => absurd h (by decide)⟩
set_option maxRecDepth 100000 in
theorem zt_m_16 : zt_mOK (⟨"ColumnVault$History", "makeNextFrom", "(I)V"⟩, prog_6_method_4_code, 5, none, [], 9, 1, 0, 0, 0, 0) := ⟨(zt_in (j := 2) (k := 116) rfl rfl), rfl, (zt_in (j := 1) (k := 2) rfl rfl), (zt_in (j := 2) (k := 114) rfl rfl), Or.inr (zt_in (j := 2) (k := 115) rfl rfl), by decide +kernel, by decide, fun h => absurd h (by decide)⟩
set_option maxRecDepth 100000 in
theorem zt_m_17 : zt_mOK (⟨"ColumnVault$Sheet", "copyFrom", "(LColumnVault$Sheet;)V"⟩, prog_10_method_2_code, 2, none, [], 13, 1, 0, 0, 0, 0) := ⟨(zt_in (j := 2) (k := 121) rfl rfl), rfl, (zt_in (j := 1) (k := 3) rfl rfl), (zt_in (j := 2) (k := 119) rfl rfl), Or.inr (zt_in (j := 2) (k := 120) rfl rfl), by decide +kernel, by decide, fun h => absurd h (by decide)⟩
set_option maxRecDepth 100000 in
theorem zt_m_18 : zt_mOK (⟨"ColumnVault$Sheet", "appendColumn", "(I)I"⟩, prog_10_method_11_code, 4, some (.int), [], 13, 1, 0, 0, 0, 0) := ⟨(zt_in (j := 2) (k := 128) rfl rfl), rfl, (zt_in (j := 1) (k := 3) rfl rfl), (zt_in (j := 2) (k := 126) rfl rfl), Or.inr (zt_in (j := 2) (k := 127) rfl rfl), by decide +kernel, by decide, fun h => absurd h (by decide)⟩
set_option maxRecDepth 100000 in
theorem zt_m_19 : zt_mOK (⟨"ColumnVault$Sheet", "putKey", "(IIJ)V"⟩, prog_10_method_8_code, 5, none, [], 13, 3, 0, 0, 0, 0) := ⟨(zt_in (j := 2) (k := 133) rfl rfl), rfl, (zt_in (j := 1) (k := 3) rfl rfl), (zt_in (j := 2) (k := 131) rfl rfl), Or.inr (zt_in (j := 2) (k := 132) rfl rfl), by decide +kernel, by decide, fun h => absurd h (by decide)⟩
set_option maxRecDepth 100000 in
theorem zt_m_20 : zt_mOK (⟨"ColumnVault$Sheet", "hasColumn", "(I)Z"⟩, prog_10_method_3_code, 2, some (.boolean), [], 13, 1, 0, 0, 0, 0) := ⟨(zt_in (j := 2) (k := 137) rfl rfl), rfl, (zt_in (j := 1) (k := 3) rfl rfl), (zt_in (j := 2) (k := 135) rfl rfl), Or.inr (zt_in (j := 2) (k := 136) rfl rfl), by decide +kernel, by decide, fun h => absurd h (by decide)⟩
set_option maxRecDepth 100000 in
theorem zt_m_21 : zt_mOK (⟨"ColumnVault$Sheet", "hasRow", "(I)Z"⟩, prog_10_method_4_code, 2, some (.boolean), [], 13, 1, 0, 0, 0, 0) := ⟨(zt_in (j := 2) (k := 141) rfl rfl), rfl, (zt_in (j := 1) (k := 3) rfl rfl), (zt_in (j := 2) (k := 139) rfl rfl), Or.inr (zt_in (j := 2) (k := 140) rfl rfl), by decide +kernel, by decide, fun h => absurd h (by decide)⟩
set_option maxRecDepth 100000 in
theorem zt_m_22 : zt_mOK (⟨"ColumnVaultLaw", "addRow", "(LColumnVault;I[J)I"⟩, method_4_code, 4, some (.int), [(0, 9, 12, 13), (0, 9, 15, 17)], 23, 3, 0, 1, 99999, 0) := ⟨(zt_in (j := 2) (k := 144) rfl rfl), rfl, (zt_in (j := 1) (k := 0) rfl rfl), (zt_in (j := 2) (k := 143) rfl rfl), Or.inl rfl, by decide +kernel, by decide, fun h => absurd h (by decide)⟩
set_option maxRecDepth 100000 in
theorem zt_m_23 : zt_mOK (⟨"ColumnVault", "addRow", "(I)I"⟩, prog_1_method_3_code, 2, some (.int), [], 15, 1, 0, 0, 0, 0) := ⟨(zt_in (j := 2) (k := 148) rfl rfl), rfl, (zt_in (j := 1) (k := 1) rfl rfl), (zt_in (j := 2) (k := 146) rfl rfl), Or.inr (zt_in (j := 2) (k := 147) rfl rfl), by decide +kernel, by decide, fun h => absurd h (by decide)⟩
set_option maxRecDepth 100000 in
theorem zt_m_24 : zt_mOK (⟨"ColumnVault$Sheet", "appendRow", "()I"⟩, prog_10_method_12_code, 3, some (.int), [], 13, 0, 0, 0, 0, 0) := ⟨(zt_in (j := 2) (k := 153) rfl rfl), rfl, (zt_in (j := 1) (k := 3) rfl rfl), (zt_in (j := 2) (k := 151) rfl rfl), Or.inr (zt_in (j := 2) (k := 152) rfl rfl), by decide +kernel, by decide, fun h => absurd h (by decide)⟩
set_option maxRecDepth 100000 in
theorem zt_m_25 : zt_mOK (⟨"ColumnVaultLaw", "fill", "(LColumnVault;IIIII[J)I"⟩, method_5_code, 8, some (.int), [(0, 16, 19, 13), (0, 16, 23, 15), (0, 16, 27, 17)], 23, 7, 0, 1, 99999, 0) := ⟨(zt_in (j := 2) (k := 156) rfl rfl), rfl, (zt_in (j := 1) (k := 0) rfl rfl), (zt_in (j := 2) (k := 155) rfl rfl), Or.inl rfl, by decide +kernel, by decide, fun h => absurd h (by decide)⟩
set_option maxRecDepth 100000 in
theorem zt_m_26 : zt_mOK (⟨"ColumnVault", "fill", "(IIIII)I"⟩, prog_1_method_4_code, 9, some (.int), [], 15, 5, 0, 0, 0, 0) := ⟨(zt_in (j := 2) (k := 160) rfl rfl), rfl, (zt_in (j := 1) (k := 1) rfl rfl), (zt_in (j := 2) (k := 158) rfl rfl), Or.inr (zt_in (j := 2) (k := 159) rfl rfl), by decide +kernel, by decide, fun h => absurd h (by decide)⟩
set_option maxRecDepth 100000 in
theorem zt_m_27 : zt_mOK (⟨"ColumnVault", "sheetWith", "(II)LColumnVault$Sheet;"⟩, prog_1_method_42_code, 4, some (.object "ColumnVault$Sheet"), [], 15, 2, 0, 0, 0, 0) := ⟨(zt_in (j := 2) (k := 164) rfl rfl), rfl, (zt_in (j := 1) (k := 1) rfl rfl), (zt_in (j := 2) (k := 163) rfl rfl), Or.inr (zt_in (j := 0) (k := 3) rfl rfl), by decide +kernel, by decide, fun h => absurd h (by decide)⟩
set_option maxRecDepth 100000 in
theorem zt_m_28 : zt_mOK (⟨"ColumnVault", "requireColumn", "(LColumnVault$Sheet;I)V"⟩, prog_1_method_47_code, 2, none, [], 15, 2, 0, 1, 99999, 0) := ⟨(zt_in (j := 2) (k := 167) rfl rfl), rfl, (zt_in (j := 1) (k := 1) rfl rfl), (zt_in (j := 2) (k := 166) rfl rfl), Or.inl rfl, by decide +kernel, by decide, fun h => absurd h (by decide)⟩
set_option maxRecDepth 100000 in
theorem zt_m_29 : zt_mOK (⟨"ColumnVault$Sheet", "kindOf", "(I)I"⟩, prog_10_method_6_code, 2, some (.int), [], 13, 1, 0, 0, 0, 0) := ⟨(zt_in (j := 2) (k := 173) rfl rfl), rfl, (zt_in (j := 1) (k := 3) rfl rfl), (zt_in (j := 2) (k := 171) rfl rfl), Or.inr (zt_in (j := 2) (k := 172) rfl rfl), by decide +kernel, by decide, fun h => absurd h (by decide)⟩
set_option maxRecDepth 100000 in
theorem zt_m_30 : zt_mOK (⟨"ColumnVault", "isNumber", "(J)Z"⟩, prog_1_method_53_code, 2, some (.boolean), [], 15, 1, 0, 1, 99999, 0) := ⟨(zt_in (j := 2) (k := 176) rfl rfl), rfl, (zt_in (j := 1) (k := 1) rfl rfl), (zt_in (j := 2) (k := 175) rfl rfl), Or.inl rfl, by decide +kernel, by decide, fun h => absurd h (by decide)⟩
set_option maxRecDepth 100000 in
theorem zt_m_31 : zt_mOK (⟨"ColumnVaultLaw", "set", "(LColumnVault;IIIJ[J)I"⟩, method_6_code, 8, some (.int), [(0, 21, 24, 13), (0, 21, 28, 15)], 23, 6, 0, 1, 99999, 0) := ⟨(zt_in (j := 2) (k := 183) rfl rfl), rfl, (zt_in (j := 1) (k := 0) rfl rfl), (zt_in (j := 2) (k := 182) rfl rfl), Or.inl rfl, by decide +kernel, by decide, fun h => absurd h (by decide)⟩
set_option maxRecDepth 100000 in
theorem zt_m_32 : zt_mOK (⟨"ColumnVault", "set", "(IIIJ)Z"⟩, prog_1_method_5_code, 12, some (.boolean), [], 15, 4, 0, 0, 0, 0) := ⟨(zt_in (j := 2) (k := 187) rfl rfl), rfl, (zt_in (j := 1) (k := 1) rfl rfl), (zt_in (j := 2) (k := 185) rfl rfl), Or.inr (zt_in (j := 2) (k := 186) rfl rfl), by decide +kernel, by decide, fun h => absurd h (by decide)⟩
set_option maxRecDepth 100000 in
theorem zt_m_33 : zt_mOK (⟨"ColumnVault", "requireRow", "(LColumnVault$Sheet;I)V"⟩, prog_1_method_48_code, 2, none, [], 15, 2, 0, 1, 99999, 0) := ⟨(zt_in (j := 2) (k := 190) rfl rfl), rfl, (zt_in (j := 1) (k := 1) rfl rfl), (zt_in (j := 2) (k := 189) rfl rfl), Or.inl rfl, by decide +kernel, by decide, fun h => absurd h (by decide)⟩
set_option maxRecDepth 100000 in
theorem zt_m_34 : zt_mOK (⟨"ColumnVault", "requireValue", "(IJ)V"⟩, prog_1_method_50_code, 3, none, [], 15, 2, 0, 1, 99999, 0) := ⟨(zt_in (j := 2) (k := 196) rfl rfl), rfl, (zt_in (j := 1) (k := 1) rfl rfl), (zt_in (j := 2) (k := 195) rfl rfl), Or.inl rfl, by decide +kernel, by decide, fun h => absurd h (by decide)⟩
set_option maxRecDepth 100000 in
theorem zt_m_35 : zt_mOK (⟨"ColumnVault", "isWord", "(J)Z"⟩, prog_1_method_54_code, 3, some (.boolean), [], 15, 1, 0, 1, 99999, 0) := ⟨(zt_in (j := 2) (k := 199) rfl rfl), rfl, (zt_in (j := 1) (k := 1) rfl rfl), (zt_in (j := 2) (k := 198) rfl rfl), Or.inl rfl, by decide +kernel, by decide, fun h => absurd h (by decide)⟩
set_option maxRecDepth 100000 in
theorem zt_m_36 : zt_mOK (⟨"ColumnVault", "isLetter", "(I)Z"⟩, prog_1_method_55_code, 1, some (.boolean), [], 15, 1, 0, 1, 99999, 0) := ⟨(zt_in (j := 2) (k := 203) rfl rfl), rfl, (zt_in (j := 1) (k := 1) rfl rfl), (zt_in (j := 2) (k := 202) rfl rfl), Or.inl rfl, by decide +kernel, by decide, fun h => absurd h (by decide)⟩
set_option maxRecDepth 100000 in
theorem zt_m_37 : zt_mOK (⟨"ColumnVault$Sheet", "keyAt", "(II)J"⟩, prog_10_method_7_code, 3, some (.long), [], 13, 2, 0, 0, 0, 0) := ⟨(zt_in (j := 2) (k := 208) rfl rfl), rfl, (zt_in (j := 1) (k := 3) rfl rfl), (zt_in (j := 2) (k := 206) rfl rfl), Or.inr (zt_in (j := 2) (k := 207) rfl rfl), by decide +kernel, by decide, fun h => absurd h (by decide)⟩
set_option maxRecDepth 100000 in
theorem zt_m_38 : zt_mOK (⟨"ColumnVault", "keyOf", "(IJ)J"⟩, prog_1_method_57_code, 6, some (.long), [], 15, 2, 0, 1, 99999, 0) := ⟨(zt_in (j := 2) (k := 211) rfl rfl), rfl, (zt_in (j := 1) (k := 1) rfl rfl), (zt_in (j := 2) (k := 210) rfl rfl), Or.inl rfl, by decide +kernel, by decide, fun h => absurd h (by decide)⟩
set_option maxRecDepth 100000 in
theorem zt_m_39 : zt_mOK (⟨"ColumnVaultLaw", "remove", "(LColumnVault;II[J)I"⟩, method_7_code, 5, some (.int), [(0, 10, 13, 13)], 23, 4, 0, 1, 99999, 0) := ⟨(zt_in (j := 2) (k := 214) rfl rfl), rfl, (zt_in (j := 1) (k := 0) rfl rfl), (zt_in (j := 2) (k := 213) rfl rfl), Or.inl rfl, by decide +kernel, by decide, fun h => absurd h (by decide)⟩
set_option maxRecDepth 100000 in
theorem zt_m_40 : zt_mOK (⟨"ColumnVault", "remove", "(II)I"⟩, prog_1_method_6_code, 4, some (.int), [], 15, 2, 0, 0, 0, 0) := ⟨(zt_in (j := 2) (k := 218) rfl rfl), rfl, (zt_in (j := 1) (k := 1) rfl rfl), (zt_in (j := 2) (k := 216) rfl rfl), Or.inr (zt_in (j := 2) (k := 217) rfl rfl), by decide +kernel, by decide, fun h => absurd h (by decide)⟩
set_option maxRecDepth 100000 in
theorem zt_m_41 : zt_mOK (⟨"ColumnVault$Sheet", "dropRow", "(I)V"⟩, prog_10_method_13_code, 4, none, [], 13, 1, 0, 0, 0, 0) := ⟨(zt_in (j := 2) (k := 222) rfl rfl), rfl, (zt_in (j := 1) (k := 3) rfl rfl), (zt_in (j := 2) (k := 220) rfl rfl), Or.inr (zt_in (j := 2) (k := 221) rfl rfl), by decide +kernel, by decide, fun h => absurd h (by decide)⟩
set_option maxRecDepth 100000 in
theorem zt_m_42 : zt_mOK (⟨"ColumnVault$Sheet", "dropFromOrder", "(I)V"⟩, prog_10_method_14_code, 5, none, [], 13, 1, 0, 0, 0, 0) := ⟨(zt_in (j := 2) (k := 227) rfl rfl), rfl, (zt_in (j := 1) (k := 3) rfl rfl), (zt_in (j := 2) (k := 226) rfl rfl), Or.inr (zt_in (j := 0) (k := 4) rfl rfl), by decide +kernel, by decide, fun h => absurd h (by decide)⟩
set_option maxRecDepth 100000 in
theorem zt_m_43 : zt_mOK (⟨"ColumnVaultLaw", "get", "(LColumnVault;III[J)I"⟩, method_8_code, 6, some (.int), [(0, 11, 14, 13)], 23, 5, 0, 1, 99999, 0) := ⟨(zt_in (j := 2) (k := 231) rfl rfl), rfl, (zt_in (j := 1) (k := 0) rfl rfl), (zt_in (j := 2) (k := 230) rfl rfl), Or.inl rfl, by decide +kernel, by decide, fun h => absurd h (by decide)⟩
set_option maxRecDepth 100000 in
theorem zt_m_44 : zt_mOK (⟨"ColumnVault", "get", "(III)J"⟩, prog_1_method_7_code, 5, some (.long), [], 15, 3, 0, 0, 0, 0) := ⟨(zt_in (j := 2) (k := 235) rfl rfl), rfl, (zt_in (j := 1) (k := 1) rfl rfl), (zt_in (j := 2) (k := 233) rfl rfl), Or.inr (zt_in (j := 2) (k := 234) rfl rfl), by decide +kernel, by decide, fun h => absurd h (by decide)⟩
set_option maxRecDepth 100000 in
theorem zt_m_45 : zt_mOK (⟨"ColumnVault$Sheet", "valueOf", "(II)J"⟩, prog_10_method_9_code, 3, some (.long), [], 13, 2, 0, 0, 0, 0) := ⟨(zt_in (j := 2) (k := 239) rfl rfl), rfl, (zt_in (j := 1) (k := 3) rfl rfl), (zt_in (j := 2) (k := 237) rfl rfl), Or.inr (zt_in (j := 2) (k := 238) rfl rfl), by decide +kernel, by decide, fun h => absurd h (by decide)⟩
set_option maxRecDepth 100000 in
theorem zt_m_46 : zt_mOK (⟨"ColumnVault", "toldOf", "(IJ)J"⟩, prog_1_method_58_code, 6, some (.long), [], 15, 2, 0, 1, 99999, 0) := ⟨(zt_in (j := 3) (k := 3) rfl rfl), rfl, (zt_in (j := 1) (k := 1) rfl rfl), (zt_in (j := 3) (k := 2) rfl rfl), Or.inl rfl, by decide +kernel, by decide, fun h => absurd h (by decide)⟩
set_option maxRecDepth 100000 in
theorem zt_m_47 : zt_mOK (⟨"ColumnVaultLaw", "size", "(LColumnVault;II[J)I"⟩, method_9_code, 5, some (.int), [(0, 10, 13, 13), (0, 10, 17, 15)], 23, 4, 0, 1, 99999, 0) := ⟨(zt_in (j := 3) (k := 6) rfl rfl), rfl, (zt_in (j := 1) (k := 0) rfl rfl), (zt_in (j := 3) (k := 5) rfl rfl), Or.inl rfl, by decide +kernel, by decide, fun h => absurd h (by decide)⟩
set_option maxRecDepth 100000 in
theorem zt_m_48 : zt_mOK (⟨"ColumnVault", "size", "(II)I"⟩, prog_1_method_8_code, 4, some (.int), [], 15, 2, 0, 0, 0, 0) := ⟨(zt_in (j := 3) (k := 10) rfl rfl), rfl, (zt_in (j := 1) (k := 1) rfl rfl), (zt_in (j := 3) (k := 8) rfl rfl), Or.inr (zt_in (j := 3) (k := 9) rfl rfl), by decide +kernel, by decide, fun h => absurd h (by decide)⟩
set_option maxRecDepth 100000 in
theorem zt_m_49 : zt_mOK (⟨"java/lang/Long", "bitCount", "(J)I"⟩, prog_30_method_50_code, 2, some (.int), [], 3, 1, 0, 1, 99999, 0) := ⟨(zt_in (j := 3) (k := 13) rfl rfl), rfl, (zt_in (j := 1) (k := 30) rfl rfl), (zt_in (j := 3) (k := 12) rfl rfl), Or.inl rfl, by decide +kernel, by decide, fun h => absurd h (by decide)⟩
set_option maxRecDepth 100000 in
theorem zt_m_50 : zt_mOK (⟨"ColumnVault$Sheet", "missingValues", "()I"⟩, prog_10_method_10_code, 3, some (.int), [], 13, 0, 0, 0, 0, 0) := ⟨(zt_in (j := 3) (k := 20) rfl rfl), rfl, (zt_in (j := 1) (k := 3) rfl rfl), (zt_in (j := 3) (k := 18) rfl rfl), Or.inr (zt_in (j := 3) (k := 19) rfl rfl), by decide +kernel, by decide, fun h => absurd h (by decide)⟩
set_option maxRecDepth 100000 in
theorem zt_m_51 : zt_mOK (⟨"ColumnVault$Sheet", "rowsWith", "(IJ)J"⟩, prog_10_method_24_code, 4, some (.long), [], 13, 2, 0, 0, 0, 0) := ⟨(zt_in (j := 3) (k := 24) rfl rfl), rfl, (zt_in (j := 1) (k := 3) rfl rfl), (zt_in (j := 3) (k := 22) rfl rfl), Or.inr (zt_in (j := 3) (k := 23) rfl rfl), by decide +kernel, by decide, fun h => absurd h (by decide)⟩
set_option maxRecDepth 100000 in
theorem zt_m_52 : zt_mOK (⟨"ColumnVault$Sheet", "rowsFromTo", "(IJJ)J"⟩, prog_10_method_25_code, 11, some (.long), [], 13, 3, 0, 0, 0, 0) := ⟨(zt_in (j := 3) (k := 28) rfl rfl), rfl, (zt_in (j := 1) (k := 3) rfl rfl), (zt_in (j := 3) (k := 26) rfl rfl), Or.inr (zt_in (j := 3) (k := 27) rfl rfl), by decide +kernel, by decide, fun h => absurd h (by decide)⟩
set_option maxRecDepth 100000 in
theorem zt_m_53 : zt_mOK (⟨"ColumnVaultLaw", "kind", "(LColumnVault;II[J)I"⟩, method_10_code, 5, some (.int), [(0, 10, 13, 13)], 23, 4, 0, 1, 99999, 0) := ⟨(zt_in (j := 3) (k := 33) rfl rfl), rfl, (zt_in (j := 1) (k := 0) rfl rfl), (zt_in (j := 3) (k := 32) rfl rfl), Or.inl rfl, by decide +kernel, by decide, fun h => absurd h (by decide)⟩
set_option maxRecDepth 100000 in
theorem zt_m_54 : zt_mOK (⟨"ColumnVault", "kind", "(II)I"⟩, prog_1_method_9_code, 3, some (.int), [], 15, 2, 0, 0, 0, 0) := ⟨(zt_in (j := 3) (k := 37) rfl rfl), rfl, (zt_in (j := 1) (k := 1) rfl rfl), (zt_in (j := 3) (k := 35) rfl rfl), Or.inr (zt_in (j := 3) (k := 36) rfl rfl), by decide +kernel, by decide, fun h => absurd h (by decide)⟩
set_option maxRecDepth 100000 in
theorem zt_m_55 : zt_mOK (⟨"ColumnVaultLaw", "back", "(LColumnVault;I[J)I"⟩, method_11_code, 4, some (.int), [(0, 9, 12, 13)], 23, 3, 0, 1, 99999, 0) := ⟨(zt_in (j := 3) (k := 40) rfl rfl), rfl, (zt_in (j := 1) (k := 0) rfl rfl), (zt_in (j := 3) (k := 39) rfl rfl), Or.inl rfl, by decide +kernel, by decide, fun h => absurd h (by decide)⟩
set_option maxRecDepth 100000 in
theorem zt_m_56 : zt_mOK (⟨"ColumnVault", "back", "(I)I"⟩, prog_1_method_11_code, 2, some (.int), [], 15, 1, 0, 0, 0, 0) := ⟨(zt_in (j := 3) (k := 44) rfl rfl), rfl, (zt_in (j := 1) (k := 1) rfl rfl), (zt_in (j := 3) (k := 42) rfl rfl), Or.inr (zt_in (j := 3) (k := 43) rfl rfl), by decide +kernel, by decide, fun h => absurd h (by decide)⟩
set_option maxRecDepth 100000 in
theorem zt_m_57 : zt_mOK (⟨"ColumnVault$History", "keeps", "(I)Z"⟩, prog_6_method_2_code, 2, some (.boolean), [], 9, 1, 0, 0, 0, 0) := ⟨(zt_in (j := 3) (k := 48) rfl rfl), rfl, (zt_in (j := 1) (k := 2) rfl rfl), (zt_in (j := 3) (k := 46) rfl rfl), Or.inr (zt_in (j := 3) (k := 47) rfl rfl), by decide +kernel, by decide, fun h => absurd h (by decide)⟩
set_option maxRecDepth 100000 in
theorem zt_m_58 : zt_mOK (⟨"ColumnVaultLaw", "sort", "(LColumnVault;IIZZ[J)I"⟩, method_12_code, 7, some (.int), [(0, 14, 17, 13)], 23, 6, 0, 1, 99999, 0) := ⟨(zt_in (j := 3) (k := 52) rfl rfl), rfl, (zt_in (j := 1) (k := 0) rfl rfl), (zt_in (j := 3) (k := 51) rfl rfl), Or.inl rfl, by decide +kernel, by decide, fun h => absurd h (by decide)⟩
set_option maxRecDepth 100000 in
theorem zt_m_59 : zt_mOK (⟨"ColumnVault", "sort", "(IIZZ)I"⟩, prog_1_method_12_code, 7, some (.int), [], 15, 4, 0, 0, 0, 0) := ⟨(zt_in (j := 3) (k := 56) rfl rfl), rfl, (zt_in (j := 1) (k := 1) rfl rfl), (zt_in (j := 3) (k := 54) rfl rfl), Or.inr (zt_in (j := 3) (k := 55) rfl rfl), by decide +kernel, by decide, fun h => absurd h (by decide)⟩
set_option maxRecDepth 100000 in
theorem zt_m_60 : zt_mOK (⟨"ColumnVault$Sheet", "orderBy", "(IZZ)V"⟩, prog_10_method_18_code, 9, none, [], 13, 3, 0, 0, 0, 0) := ⟨(zt_in (j := 3) (k := 60) rfl rfl), rfl, (zt_in (j := 1) (k := 3) rfl rfl), (zt_in (j := 3) (k := 58) rfl rfl), Or.inr (zt_in (j := 3) (k := 59) rfl rfl), by decide +kernel, by decide, fun h => absurd h (by decide)⟩
set_option maxRecDepth 100000 in
theorem zt_m_61 : zt_mOK (⟨"ColumnVault", "isAhead", "(JJZZ)Z"⟩, prog_1_method_59_code, 6, some (.boolean), [], 15, 4, 0, 1, 99999, 0) := ⟨(zt_in (j := 3) (k := 63) rfl rfl), rfl, (zt_in (j := 1) (k := 1) rfl rfl), (zt_in (j := 3) (k := 62) rfl rfl), Or.inl rfl, by decide +kernel, by decide, fun h => absurd h (by decide)⟩
set_option maxRecDepth 100000 in
theorem zt_m_62 : zt_mOK (⟨"ColumnVault$Sheet", "placesUnlike", "(LColumnVault$Sheet;)I"⟩, prog_10_method_17_code, 4, some (.int), [], 13, 1, 0, 0, 0, 0) := ⟨(zt_in (j := 3) (k := 67) rfl rfl), rfl, (zt_in (j := 1) (k := 3) rfl rfl), (zt_in (j := 3) (k := 65) rfl rfl), Or.inr (zt_in (j := 3) (k := 66) rfl rfl), by decide +kernel, by decide, fun h => absurd h (by decide)⟩
set_option maxRecDepth 100000 in
theorem zt_m_63 : zt_mOK (⟨"ColumnVault$Sheet", "rowInOrder", "(I)I"⟩, prog_10_method_15_code, 2, some (.int), [], 13, 1, 0, 0, 0, 0) := ⟨(zt_in (j := 3) (k := 71) rfl rfl), rfl, (zt_in (j := 1) (k := 3) rfl rfl), (zt_in (j := 3) (k := 69) rfl rfl), Or.inr (zt_in (j := 3) (k := 70) rfl rfl), by decide +kernel, by decide, fun h => absurd h (by decide)⟩
set_option maxRecDepth 100000 in
theorem zt_m_64 : zt_mOK (⟨"ColumnVaultLaw", "rowAt", "(LColumnVault;II[J)I"⟩, method_13_code, 5, some (.int), [(0, 10, 13, 13)], 23, 4, 0, 1, 99999, 0) := ⟨(zt_in (j := 3) (k := 74) rfl rfl), rfl, (zt_in (j := 1) (k := 0) rfl rfl), (zt_in (j := 3) (k := 73) rfl rfl), Or.inl rfl, by decide +kernel, by decide, fun h => absurd h (by decide)⟩
set_option maxRecDepth 100000 in
theorem zt_m_65 : zt_mOK (⟨"ColumnVault", "rowAt", "(II)I"⟩, prog_1_method_13_code, 4, some (.int), [], 15, 2, 0, 0, 0, 0) := ⟨(zt_in (j := 3) (k := 78) rfl rfl), rfl, (zt_in (j := 1) (k := 1) rfl rfl), (zt_in (j := 3) (k := 76) rfl rfl), Or.inr (zt_in (j := 3) (k := 77) rfl rfl), by decide +kernel, by decide, fun h => absurd h (by decide)⟩
set_option maxRecDepth 100000 in
theorem zt_m_66 : zt_mOK (⟨"ColumnVault", "requirePlace", "(LColumnVault$Sheet;I)V"⟩, prog_1_method_49_code, 2, none, [], 15, 2, 0, 1, 99999, 0) := ⟨(zt_in (j := 3) (k := 81) rfl rfl), rfl, (zt_in (j := 1) (k := 1) rfl rfl), (zt_in (j := 3) (k := 80) rfl rfl), Or.inl rfl, by decide +kernel, by decide, fun h => absurd h (by decide)⟩
set_option maxRecDepth 100000 in
theorem zt_m_67 : zt_mOK (⟨"ColumnVaultLaw", "placeOf", "(LColumnVault;II[J)I"⟩, method_14_code, 5, some (.int), [(0, 10, 13, 13)], 23, 4, 0, 1, 99999, 0) := ⟨(zt_in (j := 3) (k := 86) rfl rfl), rfl, (zt_in (j := 1) (k := 0) rfl rfl), (zt_in (j := 3) (k := 85) rfl rfl), Or.inl rfl, by decide +kernel, by decide, fun h => absurd h (by decide)⟩
set_option maxRecDepth 100000 in
theorem zt_m_68 : zt_mOK (⟨"ColumnVault", "placeOf", "(II)I"⟩, prog_1_method_14_code, 4, some (.int), [], 15, 2, 0, 0, 0, 0) := ⟨(zt_in (j := 3) (k := 90) rfl rfl), rfl, (zt_in (j := 1) (k := 1) rfl rfl), (zt_in (j := 3) (k := 88) rfl rfl), Or.inr (zt_in (j := 3) (k := 89) rfl rfl), by decide +kernel, by decide, fun h => absurd h (by decide)⟩
set_option maxRecDepth 100000 in
theorem zt_m_69 : zt_mOK (⟨"ColumnVault$Sheet", "placeInOrder", "(I)I"⟩, prog_10_method_16_code, 3, some (.int), [], 13, 1, 0, 0, 0, 0) := ⟨(zt_in (j := 3) (k := 94) rfl rfl), rfl, (zt_in (j := 1) (k := 3) rfl rfl), (zt_in (j := 3) (k := 92) rfl rfl), Or.inr (zt_in (j := 3) (k := 93) rfl rfl), by decide +kernel, by decide, fun h => absurd h (by decide)⟩
set_option maxRecDepth 100000 in
theorem zt_m_70 : zt_mOK (⟨"ColumnVaultLaw", "isChosen", "(LColumnVault;II[J)I"⟩, method_15_code, 5, some (.int), [(0, 17, 20, 13)], 23, 4, 0, 1, 99999, 0) := ⟨(zt_in (j := 3) (k := 97) rfl rfl), rfl, (zt_in (j := 1) (k := 0) rfl rfl), (zt_in (j := 3) (k := 96) rfl rfl), Or.inl rfl, by decide +kernel, by decide, fun h => absurd h (by decide)⟩
set_option maxRecDepth 100000 in
theorem zt_m_71 : zt_mOK (⟨"ColumnVault", "isChosen", "(II)Z"⟩, prog_1_method_15_code, 4, some (.boolean), [], 15, 2, 0, 0, 0, 0) := ⟨(zt_in (j := 3) (k := 101) rfl rfl), rfl, (zt_in (j := 1) (k := 1) rfl rfl), (zt_in (j := 3) (k := 99) rfl rfl), Or.inr (zt_in (j := 3) (k := 100) rfl rfl), by decide +kernel, by decide, fun h => absurd h (by decide)⟩
set_option maxRecDepth 100000 in
theorem zt_m_72 : zt_mOK (⟨"ColumnVault", "holdsRow", "(JI)Z"⟩, prog_1_method_60_code, 3, some (.boolean), [], 15, 2, 0, 1, 99999, 0) := ⟨(zt_in (j := 3) (k := 104) rfl rfl), rfl, (zt_in (j := 1) (k := 1) rfl rfl), (zt_in (j := 3) (k := 103) rfl rfl), Or.inl rfl, by decide +kernel, by decide, fun h => absurd h (by decide)⟩
set_option maxRecDepth 100000 in
theorem zt_m_73 : zt_mOK (⟨"ColumnVaultLaw", "choose", "(LColumnVault;II[J)I"⟩, method_16_code, 5, some (.int), [(0, 10, 13, 13), (0, 10, 17, 15), (0, 10, 21, 17)], 23, 4, 0, 1, 99999, 0) := ⟨(zt_in (j := 3) (k := 107) rfl rfl), rfl, (zt_in (j := 1) (k := 0) rfl rfl), (zt_in (j := 3) (k := 106) rfl rfl), Or.inl rfl, by decide +kernel, by decide, fun h => absurd h (by decide)⟩
set_option maxRecDepth 100000 in
theorem zt_m_74 : zt_mOK (⟨"ColumnVault", "choose", "(II)I"⟩, prog_1_method_16_code, 6, some (.int), [], 15, 2, 0, 0, 0, 0) := ⟨(zt_in (j := 3) (k := 111) rfl rfl), rfl, (zt_in (j := 1) (k := 1) rfl rfl), (zt_in (j := 3) (k := 109) rfl rfl), Or.inr (zt_in (j := 3) (k := 110) rfl rfl), by decide +kernel, by decide, fun h => absurd h (by decide)⟩
set_option maxRecDepth 100000 in
theorem zt_m_75 : zt_mOK (⟨"ColumnVault", "filterOf", "(I)LColumnVault$Node;"⟩, prog_1_method_45_code, 3, some (.object "ColumnVault$Node"), [], 15, 1, 0, 0, 0, 0) := ⟨(zt_in (j := 3) (k := 116) rfl rfl), rfl, (zt_in (j := 1) (k := 1) rfl rfl), (zt_in (j := 3) (k := 115) rfl rfl), Or.inr (zt_in (j := 0) (k := 5) rfl rfl), by decide +kernel, by decide, fun h => absurd h (by decide)⟩
set_option maxRecDepth 100000 in
theorem zt_m_76 : zt_mOK (⟨"ColumnVault", "readerOf", "(I)LColumnVault$FilterReader;"⟩, prog_1_method_44_code, 2, some (.object "ColumnVault$FilterReader"), [], 15, 1, 0, 0, 0, 0) := ⟨(zt_in (j := 3) (k := 120) rfl rfl), rfl, (zt_in (j := 1) (k := 1) rfl rfl), (zt_in (j := 3) (k := 119) rfl rfl), Or.inr (zt_in (j := 0) (k := 6) rfl rfl), by decide +kernel, by decide, fun h => absurd h (by decide)⟩
set_option maxRecDepth 100000 in
theorem zt_m_77 : zt_mOK (⟨"ColumnVault$FilterReader", "<init>", "(LColumnVault$Tokens;LColumnVault$Sheet;)V"⟩, prog_3_method_1_code, 3, none, [], 6, 2, 0, 2, 99999, 0) := ⟨(zt_in (j := 3) (k := 125) rfl rfl), rfl, (zt_in (j := 1) (k := 31) rfl rfl), (zt_in (j := 3) (k := 124) rfl rfl), Or.inl rfl, by decide +kernel, by decide, fun _ => rfl⟩
set_option maxRecDepth 100000 in
theorem zt_m_78 : zt_mOK (⟨"ColumnVault$FilterReader", "readWhole", "(LColumnVault$FilterText;)LColumnVault$Node;"⟩, prog_3_method_2_code, 3, some (.object "ColumnVault$Node"), [], 6, 1, 0, 0, 0, 0) := ⟨(zt_in (j := 3) (k := 154) rfl rfl), rfl, (zt_in (j := 1) (k := 31) rfl rfl), (zt_in (j := 3) (k := 152) rfl rfl), Or.inr (zt_in (j := 3) (k := 153) rfl rfl), by decide +kernel, by decide, fun h => absurd h (by decide)⟩
set_option maxRecDepth 100000 in
theorem zt_m_79 : zt_mOK (⟨"ColumnVault$Tokens", "readFrom", "(LColumnVault$FilterText;)V"⟩, prog_11_method_2_code, 4, none, [], 14, 1, 0, 0, 0, 0) := ⟨(zt_in (j := 3) (k := 158) rfl rfl), rfl, (zt_in (j := 1) (k := 5) rfl rfl), (zt_in (j := 3) (k := 156) rfl rfl), Or.inr (zt_in (j := 3) (k := 157) rfl rfl), by decide +kernel, by decide, fun h => absurd h (by decide)⟩
set_option maxRecDepth 100000 in
theorem zt_m_80 : zt_mOK (⟨"ColumnVault$FilterText", "byteAt", "(I)I"⟩, prog_4_method_2_code, 2, some (.int), [], 7, 1, 0, 0, 0, 0) := ⟨(zt_in (j := 3) (k := 162) rfl rfl), rfl, (zt_in (j := 1) (k := 4) rfl rfl), (zt_in (j := 3) (k := 160) rfl rfl), Or.inr (zt_in (j := 3) (k := 161) rfl rfl), by decide +kernel, by decide, fun h => absurd h (by decide)⟩
set_option maxRecDepth 100000 in
theorem zt_m_81 : zt_mOK (⟨"ColumnVault$Tokens", "readToken", "(LColumnVault$FilterText;I)I"⟩, prog_11_method_3_code, 5, some (.int), [], 14, 2, 0, 0, 0, 0) := ⟨(zt_in (j := 3) (k := 166) rfl rfl), rfl, (zt_in (j := 1) (k := 5) rfl rfl), (zt_in (j := 3) (k := 165) rfl rfl), Or.inr (zt_in (j := 0) (k := 7) rfl rfl), by decide +kernel, by decide, fun h => absurd h (by decide)⟩
set_option maxRecDepth 100000 in
theorem zt_m_82 : zt_mOK (⟨"ColumnVault$Tokens", "put", "(IIJ)V"⟩, prog_11_method_6_code, 5, none, [], 14, 3, 0, 0, 0, 0) := ⟨(zt_in (j := 3) (k := 171) rfl rfl), rfl, (zt_in (j := 1) (k := 5) rfl rfl), (zt_in (j := 3) (k := 170) rfl rfl), Or.inr (zt_in (j := 0) (k := 8) rfl rfl), by decide +kernel, by decide, fun h => absurd h (by decide)⟩
set_option maxRecDepth 100000 in
theorem zt_m_83 : zt_mOK (⟨"ColumnVault", "isDigit", "(I)Z"⟩, prog_1_method_56_code, 1, some (.boolean), [], 15, 1, 0, 1, 99999, 0) := ⟨(zt_in (j := 3) (k := 174) rfl rfl), rfl, (zt_in (j := 1) (k := 1) rfl rfl), (zt_in (j := 3) (k := 173) rfl rfl), Or.inl rfl, by decide +kernel, by decide, fun h => absurd h (by decide)⟩
set_option maxRecDepth 100000 in
theorem zt_m_84 : zt_mOK (⟨"ColumnVault$Tokens", "readWord", "(LColumnVault$FilterText;I)I"⟩, prog_11_method_4_code, 6, some (.int), [], 14, 2, 0, 0, 0, 0) := ⟨(zt_in (j := 3) (k := 179) rfl rfl), rfl, (zt_in (j := 1) (k := 5) rfl rfl), (zt_in (j := 3) (k := 178) rfl rfl), Or.inr (zt_in (j := 0) (k := 9) rfl rfl), by decide +kernel, by decide, fun h => absurd h (by decide)⟩
set_option maxRecDepth 100000 in
theorem zt_m_85 : zt_mOK (⟨"ColumnVault$Tokens", "readNumber", "(LColumnVault$FilterText;I)I"⟩, prog_11_method_5_code, 7, some (.int), [], 14, 2, 0, 0, 0, 0) := ⟨(zt_in (j := 3) (k := 184) rfl rfl), rfl, (zt_in (j := 1) (k := 5) rfl rfl), (zt_in (j := 3) (k := 183) rfl rfl), Or.inr (zt_in (j := 0) (k := 10) rfl rfl), by decide +kernel, by decide, fun h => absurd h (by decide)⟩
set_option maxRecDepth 100000 in
theorem zt_m_86 : zt_mOK (⟨"java/lang/Math", "min", "(JJ)J"⟩, prog_32_method_70_code, 4, some (.long), [], 24, 2, 0, 1, 99999, 0) := ⟨(zt_in (j := 3) (k := 190) rfl rfl), rfl, (zt_in (j := 1) (k := 17) rfl rfl), (zt_in (j := 3) (k := 189) rfl rfl), Or.inl rfl, by decide +kernel, by decide, fun h => absurd h (by decide)⟩
set_option maxRecDepth 100000 in
theorem zt_m_87 : zt_mOK (⟨"java/lang/Math", "max", "(II)I"⟩, prog_32_method_65_code, 2, some (.int), [], 24, 2, 0, 1, 99999, 0) := ⟨(zt_in (j := 3) (k := 194) rfl rfl), rfl, (zt_in (j := 1) (k := 17) rfl rfl), (zt_in (j := 3) (k := 193) rfl rfl), Or.inl rfl, by decide +kernel, by decide, fun h => absurd h (by decide)⟩
set_option maxRecDepth 100000 in
theorem zt_m_88 : zt_mOK (⟨"ColumnVault$FilterReader", "readFilter", "(I)LColumnVault$Node;"⟩, prog_3_method_5_code, 6, some (.object "ColumnVault$Node"), [], 6, 1, 0, 0, 0, 0) := ⟨(zt_in (j := 3) (k := 198) rfl rfl), rfl, (zt_in (j := 1) (k := 31) rfl rfl), (zt_in (j := 3) (k := 197) rfl rfl), Or.inr (zt_in (j := 0) (k := 11) rfl rfl), by decide +kernel, by decide, fun h => absurd h (by decide)⟩
set_option maxRecDepth 100000 in
theorem zt_m_89 : zt_mOK (⟨"ColumnVault$Node", "<init>", "(IJ)V"⟩, prog_8_method_1_code, 4, none, [], 11, 2, 0, 2, 99999, 0) := ⟨(zt_in (j := 3) (k := 203) rfl rfl), rfl, (zt_in (j := 1) (k := 32) rfl rfl), (zt_in (j := 3) (k := 202) rfl rfl), Or.inl rfl, by decide +kernel, by decide, fun _ => rfl⟩
set_option maxRecDepth 100000 in
theorem zt_m_90 : zt_mOK (⟨"ColumnVault$FilterReader", "readPart", "(I)LColumnVault$Node;"⟩, prog_3_method_6_code, 6, some (.object "ColumnVault$Node"), [], 6, 1, 0, 0, 0, 0) := ⟨(zt_in (j := 3) (k := 236) rfl rfl), rfl, (zt_in (j := 1) (k := 31) rfl rfl), (zt_in (j := 3) (k := 235) rfl rfl), Or.inr (zt_in (j := 0) (k := 12) rfl rfl), by decide +kernel, by decide, fun h => absurd h (by decide)⟩
set_option maxRecDepth 100000 in
theorem zt_m_91 : zt_mOK (⟨"ColumnVault$Sheet", "allRows", "()J"⟩, prog_10_method_22_code, 1, some (.long), [], 13, 0, 0, 0, 0, 0) := ⟨(zt_in (j := 4) (k := 0) rfl rfl), rfl, (zt_in (j := 1) (k := 3) rfl rfl), (zt_in (j := 3) (k := 238) rfl rfl), Or.inr (zt_in (j := 3) (k := 239) rfl rfl), by decide +kernel, by decide, fun h => absurd h (by decide)⟩
set_option maxRecDepth 100000 in
theorem zt_m_92 : zt_mOK (⟨"ColumnVault$FilterReader", "readPiece", "(I)LColumnVault$Node;"⟩, prog_3_method_7_code, 4, some (.object "ColumnVault$Node"), [], 6, 1, 0, 0, 0, 0) := ⟨(zt_in (j := 4) (k := 4) rfl rfl), rfl, (zt_in (j := 1) (k := 31) rfl rfl), (zt_in (j := 4) (k := 3) rfl rfl), Or.inr (zt_in (j := 0) (k := 13) rfl rfl), by decide +kernel, by decide, fun h => absurd h (by decide)⟩
set_option maxRecDepth 100000 in
theorem zt_m_93 : zt_mOK (⟨"ColumnVault$FilterReader", "takes", "(I)Z"⟩, prog_3_method_4_code, 2, some (.boolean), [], 6, 1, 0, 0, 0, 0) := ⟨(zt_in (j := 4) (k := 8) rfl rfl), rfl, (zt_in (j := 1) (k := 31) rfl rfl), (zt_in (j := 4) (k := 7) rfl rfl), Or.inr (zt_in (j := 0) (k := 14) rfl rfl), by decide +kernel, by decide, fun h => absurd h (by decide)⟩
set_option maxRecDepth 100000 in
theorem zt_m_94 : zt_mOK (⟨"ColumnVault$Tokens", "formAt", "(I)I"⟩, prog_11_method_7_code, 2, some (.int), [], 14, 1, 0, 0, 0, 0) := ⟨(zt_in (j := 4) (k := 12) rfl rfl), rfl, (zt_in (j := 1) (k := 5) rfl rfl), (zt_in (j := 4) (k := 10) rfl rfl), Or.inr (zt_in (j := 4) (k := 11) rfl rfl), by decide +kernel, by decide, fun h => absurd h (by decide)⟩
set_option maxRecDepth 100000 in
theorem zt_m_95 : zt_mOK (⟨"ColumnVault$Tokens", "placeAt", "(I)I"⟩, prog_11_method_8_code, 2, some (.int), [], 14, 1, 0, 0, 0, 0) := ⟨(zt_in (j := 4) (k := 16) rfl rfl), rfl, (zt_in (j := 1) (k := 5) rfl rfl), (zt_in (j := 4) (k := 14) rfl rfl), Or.inr (zt_in (j := 4) (k := 15) rfl rfl), by decide +kernel, by decide, fun h => absurd h (by decide)⟩
set_option maxRecDepth 100000 in
theorem zt_m_96 : zt_mOK (⟨"ColumnVault$FilterReader", "fail", "(II)LColumnVault$Node;"⟩, prog_3_method_3_code, 3, some (.object "ColumnVault$Node"), [], 6, 2, 0, 0, 0, 0) := ⟨(zt_in (j := 4) (k := 20) rfl rfl), rfl, (zt_in (j := 1) (k := 31) rfl rfl), (zt_in (j := 4) (k := 19) rfl rfl), Or.inr (zt_in (j := 0) (k := 15) rfl rfl), by decide +kernel, by decide, fun h => absurd h (by decide)⟩
set_option maxRecDepth 100000 in
theorem zt_m_97 : zt_mOK (⟨"ColumnVault$FilterReader", "readBrackets", "(I)LColumnVault$Node;"⟩, prog_3_method_8_code, 3, some (.object "ColumnVault$Node"), [], 6, 1, 0, 0, 0, 0) := ⟨(zt_in (j := 4) (k := 24) rfl rfl), rfl, (zt_in (j := 1) (k := 31) rfl rfl), (zt_in (j := 4) (k := 23) rfl rfl), Or.inr (zt_in (j := 0) (k := 16) rfl rfl), by decide +kernel, by decide, fun h => absurd h (by decide)⟩
set_option maxRecDepth 100000 in
theorem zt_m_98 : zt_mOK (⟨"ColumnVault$FilterReader", "readTest", "()LColumnVault$Node;"⟩, prog_3_method_9_code, 3, some (.object "ColumnVault$Node"), [], 6, 0, 0, 0, 0, 0) := ⟨(zt_in (j := 4) (k := 28) rfl rfl), rfl, (zt_in (j := 1) (k := 31) rfl rfl), (zt_in (j := 4) (k := 27) rfl rfl), Or.inr (zt_in (j := 0) (k := 17) rfl rfl), by decide +kernel, by decide, fun h => absurd h (by decide)⟩
set_option maxRecDepth 100000 in
theorem zt_m_99 : zt_mOK (⟨"ColumnVault$Tokens", "valueAt", "(I)J"⟩, prog_11_method_9_code, 2, some (.long), [], 14, 1, 0, 0, 0, 0) := ⟨(zt_in (j := 4) (k := 32) rfl rfl), rfl, (zt_in (j := 1) (k := 5) rfl rfl), (zt_in (j := 4) (k := 30) rfl rfl), Or.inr (zt_in (j := 4) (k := 31) rfl rfl), by decide +kernel, by decide, fun h => absurd h (by decide)⟩
set_option maxRecDepth 100000 in
theorem zt_m_100 : zt_mOK (⟨"ColumnVault$FilterReader", "askedBy", "(I)I"⟩, prog_3_method_10_code, 5, some (.int), [], 6, 1, 0, 0, 0, 0) := ⟨(zt_in (j := 4) (k := 37) rfl rfl), rfl, (zt_in (j := 1) (k := 31) rfl rfl), (zt_in (j := 4) (k := 36) rfl rfl), Or.inr (zt_in (j := 0) (k := 18) rfl rfl), by decide +kernel, by decide, fun h => absurd h (by decide)⟩
set_option maxRecDepth 100000 in
theorem zt_m_101 : zt_mOK (⟨"ColumnVault$FilterReader", "readValues", "(II)Z"⟩, prog_3_method_11_code, 6, some (.boolean), [], 6, 2, 0, 0, 0, 0) := ⟨(zt_in (j := 4) (k := 46) rfl rfl), rfl, (zt_in (j := 1) (k := 31) rfl rfl), (zt_in (j := 4) (k := 45) rfl rfl), Or.inr (zt_in (j := 0) (k := 19) rfl rfl), by decide +kernel, by decide, fun h => absurd h (by decide)⟩
set_option maxRecDepth 100000 in
theorem zt_m_102 : zt_mOK (⟨"ColumnVault$FilterReader", "isValueNext", "()Z"⟩, prog_3_method_12_code, 2, some (.boolean), [], 6, 0, 0, 0, 0, 0) := ⟨(zt_in (j := 4) (k := 50) rfl rfl), rfl, (zt_in (j := 1) (k := 31) rfl rfl), (zt_in (j := 4) (k := 49) rfl rfl), Or.inr (zt_in (j := 0) (k := 20) rfl rfl), by decide +kernel, by decide, fun h => absurd h (by decide)⟩
set_option maxRecDepth 100000 in
theorem zt_m_103 : zt_mOK (⟨"ColumnVault$FilterReader", "readValue", "(I)Z"⟩, prog_3_method_13_code, 6, some (.boolean), [], 6, 1, 0, 0, 0, 0) := ⟨(zt_in (j := 4) (k := 54) rfl rfl), rfl, (zt_in (j := 1) (k := 31) rfl rfl), (zt_in (j := 4) (k := 53) rfl rfl), Or.inr (zt_in (j := 0) (k := 21) rfl rfl), by decide +kernel, by decide, fun h => absurd h (by decide)⟩
set_option maxRecDepth 100000 in
theorem zt_m_104 : zt_mOK (⟨"ColumnVault$FilterReader", "rowsOfTest", "(II)J"⟩, prog_3_method_14_code, 6, some (.long), [], 6, 2, 0, 0, 0, 0) := ⟨(zt_in (j := 4) (k := 60) rfl rfl), rfl, (zt_in (j := 1) (k := 31) rfl rfl), (zt_in (j := 4) (k := 59) rfl rfl), Or.inr (zt_in (j := 0) (k := 22) rfl rfl), by decide +kernel, by decide, fun h => absurd h (by decide)⟩
set_option maxRecDepth 100000 in
theorem zt_m_105 : zt_mOK (⟨"ColumnVault$Node", "turn", "(J)V"⟩, prog_8_method_2_code, 3, none, [], 11, 1, 0, 0, 0, 0) := ⟨(zt_in (j := 4) (k := 67) rfl rfl), rfl, (zt_in (j := 1) (k := 32) rfl rfl), (zt_in (j := 4) (k := 65) rfl rfl), Or.inr (zt_in (j := 4) (k := 66) rfl rfl), by decide +kernel, by decide, fun h => absurd h (by decide)⟩
set_option maxRecDepth 100000 in
theorem zt_m_106 : zt_mOK (⟨"ColumnVault$Node", "put", "(LColumnVault$Node;)V"⟩, prog_8_method_3_code, 2, none, [], 11, 1, 0, 0, 0, 0) := ⟨(zt_in (j := 4) (k := 72) rfl rfl), rfl, (zt_in (j := 1) (k := 32) rfl rfl), (zt_in (j := 4) (k := 70) rfl rfl), Or.inr (zt_in (j := 4) (k := 71) rfl rfl), by decide +kernel, by decide, fun h => absurd h (by decide)⟩
set_option maxRecDepth 100000 in
theorem zt_m_107 : zt_mOK (⟨"ColumnVault$Node", "putByCounts", "(LColumnVault$Node;)V"⟩, prog_8_method_4_code, 4, none, [], 11, 1, 0, 0, 0, 0) := ⟨(zt_in (j := 4) (k := 76) rfl rfl), rfl, (zt_in (j := 1) (k := 32) rfl rfl), (zt_in (j := 4) (k := 75) rfl rfl), Or.inr (zt_in (j := 0) (k := 23) rfl rfl), by decide +kernel, by decide, fun h => absurd h (by decide)⟩
set_option maxRecDepth 100000 in
theorem zt_m_108 : zt_mOK (⟨"ColumnVault$Node", "isFirst", "(LColumnVault$Node;LColumnVault$Node;)Z"⟩, prog_8_method_5_code, 5, some (.boolean), [], 11, 2, 0, 0, 0, 0) := ⟨(zt_in (j := 4) (k := 80) rfl rfl), rfl, (zt_in (j := 1) (k := 32) rfl rfl), (zt_in (j := 4) (k := 79) rfl rfl), Or.inr (zt_in (j := 0) (k := 24) rfl rfl), by decide +kernel, by decide, fun h => absurd h (by decide)⟩
set_option maxRecDepth 100000 in
theorem zt_m_109 : zt_mOK (⟨"ColumnVaultLaw", "turnChoice", "(LColumnVault;I[J)I"⟩, method_17_code, 4, some (.int), [(0, 9, 12, 13)], 23, 3, 0, 1, 99999, 0) := ⟨(zt_in (j := 4) (k := 86) rfl rfl), rfl, (zt_in (j := 1) (k := 0) rfl rfl), (zt_in (j := 4) (k := 85) rfl rfl), Or.inl rfl, by decide +kernel, by decide, fun h => absurd h (by decide)⟩
set_option maxRecDepth 100000 in
theorem zt_m_110 : zt_mOK (⟨"ColumnVault", "turnChoice", "(I)I"⟩, prog_1_method_17_code, 3, some (.int), [], 15, 1, 0, 0, 0, 0) := ⟨(zt_in (j := 4) (k := 90) rfl rfl), rfl, (zt_in (j := 1) (k := 1) rfl rfl), (zt_in (j := 4) (k := 88) rfl rfl), Or.inr (zt_in (j := 4) (k := 89) rfl rfl), by decide +kernel, by decide, fun h => absurd h (by decide)⟩
set_option maxRecDepth 100000 in
theorem zt_m_111 : zt_mOK (⟨"ColumnVaultLaw", "count", "(LColumnVault;I[J)I"⟩, method_18_code, 4, some (.int), [(0, 9, 12, 13), (0, 9, 15, 17)], 23, 3, 0, 1, 99999, 0) := ⟨(zt_in (j := 4) (k := 94) rfl rfl), rfl, (zt_in (j := 1) (k := 0) rfl rfl), (zt_in (j := 4) (k := 93) rfl rfl), Or.inl rfl, by decide +kernel, by decide, fun h => absurd h (by decide)⟩
set_option maxRecDepth 100000 in
theorem zt_m_112 : zt_mOK (⟨"ColumnVault", "count", "(I)I"⟩, prog_1_method_18_code, 2, some (.int), [], 15, 1, 0, 0, 0, 0) := ⟨(zt_in (j := 4) (k := 98) rfl rfl), rfl, (zt_in (j := 1) (k := 1) rfl rfl), (zt_in (j := 4) (k := 96) rfl rfl), Or.inr (zt_in (j := 4) (k := 97) rfl rfl), by decide +kernel, by decide, fun h => absurd h (by decide)⟩
set_option maxRecDepth 100000 in
theorem zt_m_113 : zt_mOK (⟨"ColumnVaultLaw", "reads", "(LColumnVault;IZ[J)I"⟩, method_19_code, 5, some (.int), [(0, 10, 13, 13), (0, 10, 17, 17)], 23, 4, 0, 1, 99999, 0) := ⟨(zt_in (j := 4) (k := 101) rfl rfl), rfl, (zt_in (j := 1) (k := 0) rfl rfl), (zt_in (j := 4) (k := 100) rfl rfl), Or.inl rfl, by decide +kernel, by decide, fun h => absurd h (by decide)⟩
set_option maxRecDepth 100000 in
theorem zt_m_114 : zt_mOK (⟨"ColumnVault", "reads", "(IZ)I"⟩, prog_1_method_19_code, 3, some (.int), [], 15, 2, 0, 0, 0, 0) := ⟨(zt_in (j := 4) (k := 105) rfl rfl), rfl, (zt_in (j := 1) (k := 1) rfl rfl), (zt_in (j := 4) (k := 103) rfl rfl), Or.inr (zt_in (j := 4) (k := 104) rfl rfl), by decide +kernel, by decide, fun h => absurd h (by decide)⟩
set_option maxRecDepth 100000 in
theorem zt_m_115 : zt_mOK (⟨"ColumnVault", "readsOf", "(LColumnVault$Node;JZI)I"⟩, prog_1_method_63_code, 9, some (.int), [], 15, 4, 0, 1, 99999, 0) := ⟨(zt_in (j := 4) (k := 108) rfl rfl), rfl, (zt_in (j := 1) (k := 1) rfl rfl), (zt_in (j := 4) (k := 107) rfl rfl), Or.inl rfl, by decide +kernel, by decide, fun h => absurd h (by decide)⟩
set_option maxRecDepth 100000 in
theorem zt_m_116 : zt_mOK (⟨"ColumnVaultLaw", "errorKind", "(LColumnVault;I[J)I"⟩, method_20_code, 4, some (.int), [(0, 9, 12, 13)], 23, 3, 0, 1, 99999, 0) := ⟨(zt_in (j := 4) (k := 111) rfl rfl), rfl, (zt_in (j := 1) (k := 0) rfl rfl), (zt_in (j := 4) (k := 110) rfl rfl), Or.inl rfl, by decide +kernel, by decide, fun h => absurd h (by decide)⟩
set_option maxRecDepth 100000 in
theorem zt_m_117 : zt_mOK (⟨"ColumnVault", "errorKind", "(I)I"⟩, prog_1_method_20_code, 3, some (.int), [], 15, 1, 0, 0, 0, 0) := ⟨(zt_in (j := 4) (k := 115) rfl rfl), rfl, (zt_in (j := 1) (k := 1) rfl rfl), (zt_in (j := 4) (k := 113) rfl rfl), Or.inr (zt_in (j := 4) (k := 114) rfl rfl), by decide +kernel, by decide, fun h => absurd h (by decide)⟩
set_option maxRecDepth 100000 in
theorem zt_m_118 : zt_mOK (⟨"ColumnVaultLaw", "errorPlace", "(LColumnVault;I[J)I"⟩, method_21_code, 4, some (.int), [(0, 9, 12, 13)], 23, 3, 0, 1, 99999, 0) := ⟨(zt_in (j := 4) (k := 118) rfl rfl), rfl, (zt_in (j := 1) (k := 0) rfl rfl), (zt_in (j := 4) (k := 117) rfl rfl), Or.inl rfl, by decide +kernel, by decide, fun h => absurd h (by decide)⟩
set_option maxRecDepth 100000 in
theorem zt_m_119 : zt_mOK (⟨"ColumnVault", "errorPlace", "(I)I"⟩, prog_1_method_21_code, 3, some (.int), [], 15, 1, 0, 0, 0, 0) := ⟨(zt_in (j := 4) (k := 122) rfl rfl), rfl, (zt_in (j := 1) (k := 1) rfl rfl), (zt_in (j := 4) (k := 120) rfl rfl), Or.inr (zt_in (j := 4) (k := 121) rfl rfl), by decide +kernel, by decide, fun h => absurd h (by decide)⟩
set_option maxRecDepth 100000 in
theorem zt_m_120 : zt_mOK (⟨"ColumnVaultLaw", "type", "(LColumnVault;J[J)I"⟩, method_22_code, 5, some (.int), [(0, 9, 12, 17)], 23, 3, 0, 1, 99999, 0) := ⟨(zt_in (j := 4) (k := 125) rfl rfl), rfl, (zt_in (j := 1) (k := 0) rfl rfl), (zt_in (j := 4) (k := 124) rfl rfl), Or.inl rfl, by decide +kernel, by decide, fun h => absurd h (by decide)⟩
set_option maxRecDepth 100000 in
theorem zt_m_121 : zt_mOK (⟨"ColumnVault", "type", "(J)I"⟩, prog_1_method_22_code, 3, some (.int), [], 15, 1, 0, 0, 0, 0) := ⟨(zt_in (j := 4) (k := 129) rfl rfl), rfl, (zt_in (j := 1) (k := 1) rfl rfl), (zt_in (j := 4) (k := 127) rfl rfl), Or.inr (zt_in (j := 4) (k := 128) rfl rfl), by decide +kernel, by decide, fun h => absurd h (by decide)⟩
set_option maxRecDepth 100000 in
theorem zt_m_122 : zt_mOK (⟨"ColumnVault", "bytesIn", "(J)I"⟩, prog_1_method_61_code, 4, some (.int), [], 15, 1, 0, 1, 99999, 0) := ⟨(zt_in (j := 4) (k := 132) rfl rfl), rfl, (zt_in (j := 1) (k := 1) rfl rfl), (zt_in (j := 4) (k := 131) rfl rfl), Or.inl rfl, by decide +kernel, by decide, fun h => absurd h (by decide)⟩
set_option maxRecDepth 100000 in
theorem zt_m_123 : zt_mOK (⟨"ColumnVault$FilterText", "appendBytes", "(J)V"⟩, prog_4_method_4_code, 4, none, [], 7, 1, 0, 0, 0, 0) := ⟨(zt_in (j := 4) (k := 137) rfl rfl), rfl, (zt_in (j := 1) (k := 4) rfl rfl), (zt_in (j := 4) (k := 135) rfl rfl), Or.inr (zt_in (j := 4) (k := 136) rfl rfl), by decide +kernel, by decide, fun h => absurd h (by decide)⟩
set_option maxRecDepth 100000 in
theorem zt_m_124 : zt_mOK (⟨"ColumnVault$FilterText", "append", "(I)V"⟩, prog_4_method_3_code, 2, none, [], 7, 1, 0, 0, 0, 0) := ⟨(zt_in (j := 4) (k := 142) rfl rfl), rfl, (zt_in (j := 1) (k := 4) rfl rfl), (zt_in (j := 4) (k := 141) rfl rfl), Or.inr (zt_in (j := 0) (k := 25) rfl rfl), by decide +kernel, by decide, fun h => absurd h (by decide)⟩
set_option maxRecDepth 100000 in
theorem zt_m_125 : zt_mOK (⟨"ColumnVaultLaw", "example", "(LColumnVault;I[J)I"⟩, method_23_code, 4, some (.int), [(0, 9, 12, 15)], 23, 3, 0, 1, 99999, 0) := ⟨(zt_in (j := 4) (k := 145) rfl rfl), rfl, (zt_in (j := 1) (k := 0) rfl rfl), (zt_in (j := 4) (k := 144) rfl rfl), Or.inl rfl, by decide +kernel, by decide, fun h => absurd h (by decide)⟩
set_option maxRecDepth 100000 in
theorem zt_m_126 : zt_mOK (⟨"ColumnVault", "example", "(I)I"⟩, prog_1_method_24_code, 2, some (.int), [], 15, 1, 0, 0, 0, 0) := ⟨(zt_in (j := 4) (k := 149) rfl rfl), rfl, (zt_in (j := 1) (k := 1) rfl rfl), (zt_in (j := 4) (k := 147) rfl rfl), Or.inr (zt_in (j := 4) (k := 148) rfl rfl), by decide +kernel, by decide, fun h => absurd h (by decide)⟩
set_option maxRecDepth 100000 in
theorem zt_m_127 : zt_mOK (⟨"ColumnVault$FilterText", "replaceBy", "(Ljava/lang/String;)V"⟩, prog_4_method_5_code, 3, none, [], 7, 1, 0, 0, 0, 0) := ⟨(zt_in (j := 4) (k := 154) rfl rfl), rfl, (zt_in (j := 1) (k := 4) rfl rfl), (zt_in (j := 4) (k := 152) rfl rfl), Or.inr (zt_in (j := 4) (k := 153) rfl rfl), by decide +kernel, by decide, fun h => absurd h (by decide)⟩
set_option maxRecDepth 100000 in
theorem zt_m_128 : zt_mOK (⟨"java/lang/String", "length", "()I"⟩, prog_35_method_54_code, 1, some (.int), [], 0, 0, 0, 0, 0, 0) := ⟨(zt_in (j := 4) (k := 158) rfl rfl), rfl, (zt_in (j := 1) (k := 34) rfl rfl), (zt_in (j := 4) (k := 156) rfl rfl), Or.inr (zt_in (j := 4) (k := 157) rfl rfl), by decide +kernel, by decide, fun h => absurd h (by decide)⟩
set_option maxRecDepth 100000 in
theorem zt_m_129 : zt_mOK (⟨"java/lang/String", "coder", "()B"⟩, prog_35_method_152_code, 1, some (.byte), [], 0, 0, 0, 0, 0, 0) := ⟨(zt_in (j := 4) (k := 162) rfl rfl), rfl, (zt_in (j := 1) (k := 34) rfl rfl), (zt_in (j := 4) (k := 160) rfl rfl), Or.inr (zt_in (j := 4) (k := 161) rfl rfl), by decide +kernel, by decide, fun h => absurd h (by decide)⟩
set_option maxRecDepth 100000 in
theorem zt_m_130 : zt_mOK (⟨"java/lang/String", "charAt", "(I)C"⟩, prog_35_method_56_code, 2, some (.char), [], 0, 1, 0, 0, 0, 0) := ⟨(zt_in (j := 4) (k := 168) rfl rfl), rfl, (zt_in (j := 1) (k := 34) rfl rfl), (zt_in (j := 4) (k := 166) rfl rfl), Or.inr (zt_in (j := 4) (k := 167) rfl rfl), by decide +kernel, by decide, fun h => absurd h (by decide)⟩
set_option maxRecDepth 100000 in
theorem zt_m_131 : zt_mOK (⟨"java/lang/String", "isLatin1", "()Z"⟩, prog_35_method_154_code, 1, some (.boolean), [], 0, 0, 0, 0, 0, 0) := ⟨(zt_in (j := 4) (k := 172) rfl rfl), rfl, (zt_in (j := 1) (k := 34) rfl rfl), (zt_in (j := 4) (k := 170) rfl rfl), Or.inr (zt_in (j := 4) (k := 171) rfl rfl), by decide +kernel, by decide, fun h => absurd h (by decide)⟩
set_option maxRecDepth 100000 in
theorem zt_m_132 : zt_mOK (⟨"java/lang/StringLatin1", "charAt", "([BI)C"⟩, prog_37_method_2_code, 2, some (.char), [], 25, 2, 0, 1, 99999, 0) := ⟨(zt_in (j := 4) (k := 175) rfl rfl), rfl, (zt_in (j := 1) (k := 35) rfl rfl), (zt_in (j := 4) (k := 174) rfl rfl), Or.inl rfl, by decide +kernel, by decide, fun h => absurd h (by decide)⟩
set_option maxRecDepth 100000 in
theorem zt_m_133 : zt_mOK (⟨"java/lang/String", "checkIndex", "(II)V"⟩, prog_35_method_155_code, 2, none, [], 0, 2, 0, 1, 99999, 0) := ⟨(zt_in (j := 4) (k := 178) rfl rfl), rfl, (zt_in (j := 1) (k := 34) rfl rfl), (zt_in (j := 4) (k := 177) rfl rfl), Or.inl rfl, by decide +kernel, by decide, fun h => absurd h (by decide)⟩
set_option maxRecDepth 100000 in
theorem zt_m_134 : zt_mOK (⟨"jdk/internal/util/Preconditions", "checkIndex", "(IILjava/util/function/BiFunction;)I"⟩, prog_54_method_11_code, 3, some (.int), [], 26, 3, 0, 1, 99999, 0) := ⟨(zt_in (j := 4) (k := 183) rfl rfl), rfl, (zt_in (j := 1) (k := 15) rfl rfl), (zt_in (j := 4) (k := 182) rfl rfl), Or.inl rfl, by decide +kernel, by decide, fun h => absurd h (by decide)⟩
set_option maxRecDepth 100000 in
theorem zt_m_135 : zt_mOK (⟨"java/lang/StringUTF16", "charAt", "([BI)C"⟩, prog_38_method_83_code, 2, some (.char), [], 27, 2, 0, 1, 99999, 0) := ⟨(zt_in (j := 4) (k := 186) rfl rfl), rfl, (zt_in (j := 1) (k := 36) rfl rfl), (zt_in (j := 4) (k := 185) rfl rfl), Or.inl rfl, by decide +kernel, by decide, fun h => absurd h (by decide)⟩
set_option maxRecDepth 100000 in
theorem zt_m_136 : zt_mOK (⟨"java/lang/StringUTF16", "checkIndex", "(I[B)V"⟩, prog_38_method_91_code, 2, none, [], 27, 2, 0, 1, 99999, 0) := ⟨(zt_in (j := 4) (k := 189) rfl rfl), rfl, (zt_in (j := 1) (k := 36) rfl rfl), (zt_in (j := 4) (k := 188) rfl rfl), Or.inl rfl, by decide +kernel, by decide, fun h => absurd h (by decide)⟩
set_option maxRecDepth 100000 in
theorem zt_m_137 : zt_mOK (⟨"java/lang/StringUTF16", "length", "([B)I"⟩, prog_38_method_6_code, 1, some (.int), [], 27, 1, 0, 1, 99999, 0) := ⟨(zt_in (j := 4) (k := 192) rfl rfl), rfl, (zt_in (j := 1) (k := 36) rfl rfl), (zt_in (j := 4) (k := 191) rfl rfl), Or.inl rfl, by decide +kernel, by decide, fun h => absurd h (by decide)⟩
set_option maxRecDepth 100000 in
theorem zt_m_138 : zt_mOK (⟨"java/lang/StringUTF16", "getChar", "([BI)C"⟩, prog_38_method_5_code, 2, some (.char), [], 27, 2, 0, 1, 99999, 0) := ⟨(zt_in (j := 4) (k := 196) rfl rfl), rfl, (zt_in (j := 1) (k := 36) rfl rfl), (zt_in (j := 4) (k := 195) rfl rfl), Or.inl rfl, by decide +kernel, by decide, fun h => absurd h (by decide)⟩
set_option maxRecDepth 100000 in
theorem zt_m_139 : zt_mOK (⟨"ColumnVaultLaw", "join", "(LColumnVault;IIIII[J)I"⟩, method_24_code, 8, some (.int), [(0, 16, 19, 13), (0, 16, 23, 15)], 23, 7, 0, 1, 99999, 0) := ⟨(zt_in (j := 4) (k := 208) rfl rfl), rfl, (zt_in (j := 1) (k := 0) rfl rfl), (zt_in (j := 4) (k := 207) rfl rfl), Or.inl rfl, by decide +kernel, by decide, fun h => absurd h (by decide)⟩
set_option maxRecDepth 100000 in
theorem zt_m_140 : zt_mOK (⟨"ColumnVault", "join", "(IIIII)I"⟩, prog_1_method_25_code, 8, some (.int), [], 15, 5, 0, 0, 0, 0) := ⟨(zt_in (j := 4) (k := 212) rfl rfl), rfl, (zt_in (j := 1) (k := 1) rfl rfl), (zt_in (j := 4) (k := 210) rfl rfl), Or.inr (zt_in (j := 4) (k := 211) rfl rfl), by decide +kernel, by decide, fun h => absurd h (by decide)⟩
set_option maxRecDepth 100000 in
theorem zt_m_141 : zt_mOK (⟨"ColumnVault", "requireSameKind", "(II)V"⟩, prog_1_method_52_code, 2, none, [], 15, 2, 0, 1, 99999, 0) := ⟨(zt_in (j := 4) (k := 215) rfl rfl), rfl, (zt_in (j := 1) (k := 1) rfl rfl), (zt_in (j := 4) (k := 214) rfl rfl), Or.inl rfl, by decide +kernel, by decide, fun h => absurd h (by decide)⟩
set_option maxRecDepth 100000 in
theorem zt_m_142 : zt_mOK (⟨"ColumnVault$Pairs", "make", "(LColumnVault$Sheet;ILColumnVault$Sheet;II)V"⟩, prog_9_method_2_code, 11, none, [], 12, 5, 0, 0, 0, 0) := ⟨(zt_in (j := 4) (k := 221) rfl rfl), rfl, (zt_in (j := 1) (k := 6) rfl rfl), (zt_in (j := 4) (k := 219) rfl rfl), Or.inr (zt_in (j := 4) (k := 220) rfl rfl), by decide +kernel, by decide, fun h => absurd h (by decide)⟩
set_option maxRecDepth 100000 in
theorem zt_m_143 : zt_mOK (⟨"ColumnVault$Pairs", "putRow", "(IJI)V"⟩, prog_9_method_3_code, 6, none, [], 12, 3, 0, 0, 0, 0) := ⟨(zt_in (j := 4) (k := 229) rfl rfl), rfl, (zt_in (j := 1) (k := 6) rfl rfl), (zt_in (j := 4) (k := 228) rfl rfl), Or.inr (zt_in (j := 0) (k := 26) rfl rfl), by decide +kernel, by decide, fun h => absurd h (by decide)⟩
set_option maxRecDepth 100000 in
theorem zt_m_144 : zt_mOK (⟨"ColumnVault$Pairs", "put", "(II)V"⟩, prog_9_method_4_code, 3, none, [], 12, 2, 0, 0, 0, 0) := ⟨(zt_in (j := 4) (k := 233) rfl rfl), rfl, (zt_in (j := 1) (k := 6) rfl rfl), (zt_in (j := 4) (k := 232) rfl rfl), Or.inr (zt_in (j := 0) (k := 27) rfl rfl), by decide +kernel, by decide, fun h => absurd h (by decide)⟩
set_option maxRecDepth 100000 in
theorem zt_m_145 : zt_mOK (⟨"ColumnVaultLaw", "pairAt", "(LColumnVault;IZ[J)I"⟩, method_25_code, 5, some (.int), [(0, 10, 13, 13)], 23, 4, 0, 1, 99999, 0) := ⟨(zt_in (j := 4) (k := 236) rfl rfl), rfl, (zt_in (j := 1) (k := 0) rfl rfl), (zt_in (j := 4) (k := 235) rfl rfl), Or.inl rfl, by decide +kernel, by decide, fun h => absurd h (by decide)⟩
set_option maxRecDepth 100000 in
theorem zt_m_146 : zt_mOK (⟨"ColumnVault", "pairAt", "(IZ)I"⟩, prog_1_method_26_code, 3, some (.int), [], 15, 2, 0, 0, 0, 0) := ⟨(zt_in (j := 5) (k := 0) rfl rfl), rfl, (zt_in (j := 1) (k := 1) rfl rfl), (zt_in (j := 4) (k := 238) rfl rfl), Or.inr (zt_in (j := 4) (k := 239) rfl rfl), by decide +kernel, by decide, fun h => absurd h (by decide)⟩
set_option maxRecDepth 100000 in
theorem zt_m_147 : zt_mOK (⟨"ColumnVault$Pairs", "rowOf", "(IZ)I"⟩, prog_9_method_5_code, 3, some (.int), [], 12, 2, 0, 0, 0, 0) := ⟨(zt_in (j := 5) (k := 5) rfl rfl), rfl, (zt_in (j := 1) (k := 6) rfl rfl), (zt_in (j := 5) (k := 3) rfl rfl), Or.inr (zt_in (j := 5) (k := 4) rfl rfl), by decide +kernel, by decide, fun h => absurd h (by decide)⟩
set_option maxRecDepth 100000 in
theorem zt_m_148 : zt_mOK (⟨"ColumnVaultLaw", "joinErrors", "(LColumnVault;IIII[J)I"⟩, method_26_code, 7, some (.int), [(0, 14, 17, 13), (0, 14, 21, 15)], 23, 6, 0, 1, 99999, 0) := ⟨(zt_in (j := 5) (k := 8) rfl rfl), rfl, (zt_in (j := 1) (k := 0) rfl rfl), (zt_in (j := 5) (k := 7) rfl rfl), Or.inl rfl, by decide +kernel, by decide, fun h => absurd h (by decide)⟩
set_option maxRecDepth 100000 in
theorem zt_m_149 : zt_mOK (⟨"ColumnVault", "joinErrors", "(IIII)I"⟩, prog_1_method_27_code, 7, some (.int), [], 15, 4, 0, 0, 0, 0) := ⟨(zt_in (j := 5) (k := 12) rfl rfl), rfl, (zt_in (j := 1) (k := 1) rfl rfl), (zt_in (j := 5) (k := 10) rfl rfl), Or.inr (zt_in (j := 5) (k := 11) rfl rfl), by decide +kernel, by decide, fun h => absurd h (by decide)⟩
set_option maxRecDepth 100000 in
theorem zt_m_150 : zt_mOK (⟨"ColumnVault$JoinWays", "<init>", "(LColumnVault$Sheet;ILColumnVault$Sheet;I)V"⟩, prog_7_method_1_code, 5, none, [], 10, 4, 0, 2, 99999, 0) := ⟨(zt_in (j := 5) (k := 17) rfl rfl), rfl, (zt_in (j := 1) (k := 38) rfl rfl), (zt_in (j := 5) (k := 16) rfl rfl), Or.inl rfl, by decide +kernel, by decide, fun _ => rfl⟩
set_option maxRecDepth 100000 in
theorem zt_m_151 : zt_mOK (⟨"ColumnVault$JoinWays", "pairsNotToldByAll", "()I"⟩, prog_7_method_2_code, 9, some (.int), [], 10, 0, 0, 0, 0, 0) := ⟨(zt_in (j := 5) (k := 35) rfl rfl), rfl, (zt_in (j := 1) (k := 38) rfl rfl), (zt_in (j := 5) (k := 33) rfl rfl), Or.inr (zt_in (j := 5) (k := 34) rfl rfl), by decide +kernel, by decide, fun h => absurd h (by decide)⟩
set_option maxRecDepth 100000 in
theorem zt_m_152 : zt_mOK (⟨"ColumnVault$Sheet", "risingRows", "(IJ)[I"⟩, prog_10_method_28_code, 12, some (.array (.int)), [], 13, 2, 0, 0, 0, 0) := ⟨(zt_in (j := 5) (k := 39) rfl rfl), rfl, (zt_in (j := 1) (k := 3) rfl rfl), (zt_in (j := 5) (k := 37) rfl rfl), Or.inr (zt_in (j := 5) (k := 38) rfl rfl), by decide +kernel, by decide, fun h => absurd h (by decide)⟩
set_option maxRecDepth 100000 in
theorem zt_m_153 : zt_mOK (⟨"ColumnVault$Sheet", "knownRows", "(I)J"⟩, prog_10_method_23_code, 2, some (.long), [], 13, 1, 0, 0, 0, 0) := ⟨(zt_in (j := 5) (k := 43) rfl rfl), rfl, (zt_in (j := 1) (k := 3) rfl rfl), (zt_in (j := 5) (k := 41) rfl rfl), Or.inr (zt_in (j := 5) (k := 42) rfl rfl), by decide +kernel, by decide, fun h => absurd h (by decide)⟩
set_option maxRecDepth 100000 in
theorem zt_m_154 : zt_mOK (⟨"ColumnVault$JoinWays", "byMerging", "([I[I)[J"⟩, prog_7_method_3_code, 9, some (.array (.long)), [], 10, 2, 0, 0, 0, 0) := ⟨(zt_in (j := 5) (k := 50) rfl rfl), rfl, (zt_in (j := 1) (k := 38) rfl rfl), (zt_in (j := 5) (k := 49) rfl rfl), Or.inr (zt_in (j := 0) (k := 28) rfl rfl), by decide +kernel, by decide, fun h => absurd h (by decide)⟩
set_option maxRecDepth 100000 in
theorem zt_m_155 : zt_mOK (⟨"ColumnVault$JoinWays", "rowsWithKeyFrom", "([IIJ)J"⟩, prog_7_method_6_code, 8, some (.long), [], 10, 3, 0, 0, 0, 0) := ⟨(zt_in (j := 5) (k := 56) rfl rfl), rfl, (zt_in (j := 1) (k := 38) rfl rfl), (zt_in (j := 5) (k := 55) rfl rfl), Or.inr (zt_in (j := 0) (k := 29) rfl rfl), by decide +kernel, by decide, fun h => absurd h (by decide)⟩
set_option maxRecDepth 100000 in
theorem zt_m_156 : zt_mOK (⟨"ColumnVault$JoinWays", "byLookingUp", "([I)[J"⟩, prog_7_method_4_code, 6, some (.array (.long)), [], 10, 1, 0, 0, 0, 0) := ⟨(zt_in (j := 5) (k := 61) rfl rfl), rfl, (zt_in (j := 1) (k := 38) rfl rfl), (zt_in (j := 5) (k := 60) rfl rfl), Or.inr (zt_in (j := 0) (k := 30) rfl rfl), by decide +kernel, by decide, fun h => absurd h (by decide)⟩
set_option maxRecDepth 100000 in
theorem zt_m_157 : zt_mOK (⟨"ColumnVault$JoinWays", "firstPlaceOf", "([IJ)I"⟩, prog_7_method_5_code, 8, some (.int), [], 10, 2, 0, 0, 0, 0) := ⟨(zt_in (j := 5) (k := 67) rfl rfl), rfl, (zt_in (j := 1) (k := 38) rfl rfl), (zt_in (j := 5) (k := 66) rfl rfl), Or.inr (zt_in (j := 0) (k := 31) rfl rfl), by decide +kernel, by decide, fun h => absurd h (by decide)⟩
set_option maxRecDepth 100000 in
theorem zt_m_158 : zt_mOK (⟨"ColumnVault$JoinWays", "byTrying", "()[J"⟩, prog_7_method_7_code, 6, some (.array (.long)), [], 10, 0, 0, 0, 0, 0) := ⟨(zt_in (j := 5) (k := 71) rfl rfl), rfl, (zt_in (j := 1) (k := 38) rfl rfl), (zt_in (j := 5) (k := 70) rfl rfl), Or.inr (zt_in (j := 0) (k := 32) rfl rfl), by decide +kernel, by decide, fun h => absurd h (by decide)⟩
set_option maxRecDepth 100000 in
theorem zt_m_159 : zt_mOK (⟨"ColumnVaultLaw", "group", "(LColumnVault;II[J)I"⟩, method_27_code, 5, some (.int), [(0, 10, 13, 13)], 23, 4, 0, 1, 99999, 0) := ⟨(zt_in (j := 5) (k := 76) rfl rfl), rfl, (zt_in (j := 1) (k := 0) rfl rfl), (zt_in (j := 5) (k := 75) rfl rfl), Or.inl rfl, by decide +kernel, by decide, fun h => absurd h (by decide)⟩
set_option maxRecDepth 100000 in
theorem zt_m_160 : zt_mOK (⟨"ColumnVault", "group", "(II)I"⟩, prog_1_method_28_code, 3, some (.int), [], 15, 2, 0, 0, 0, 0) := ⟨(zt_in (j := 5) (k := 80) rfl rfl), rfl, (zt_in (j := 1) (k := 1) rfl rfl), (zt_in (j := 5) (k := 78) rfl rfl), Or.inr (zt_in (j := 5) (k := 79) rfl rfl), by decide +kernel, by decide, fun h => absurd h (by decide)⟩
set_option maxRecDepth 100000 in
theorem zt_m_161 : zt_mOK (⟨"ColumnVault$Groups", "make", "(LColumnVault$Sheet;I)V"⟩, prog_5_method_2_code, 4, none, [], 8, 2, 0, 0, 0, 0) := ⟨(zt_in (j := 5) (k := 84) rfl rfl), rfl, (zt_in (j := 1) (k := 7) rfl rfl), (zt_in (j := 5) (k := 82) rfl rfl), Or.inr (zt_in (j := 5) (k := 83) rfl rfl), by decide +kernel, by decide, fun h => absurd h (by decide)⟩
set_option maxRecDepth 100000 in
theorem zt_m_162 : zt_mOK (⟨"ColumnVault$Groups", "put", "(I)V"⟩, prog_5_method_3_code, 5, none, [], 8, 1, 0, 0, 0, 0) := ⟨(zt_in (j := 5) (k := 90) rfl rfl), rfl, (zt_in (j := 1) (k := 7) rfl rfl), (zt_in (j := 5) (k := 89) rfl rfl), Or.inr (zt_in (j := 0) (k := 33) rfl rfl), by decide +kernel, by decide, fun h => absurd h (by decide)⟩
set_option maxRecDepth 100000 in
theorem zt_m_163 : zt_mOK (⟨"ColumnVault$Groups", "open", "(IJ)V"⟩, prog_5_method_4_code, 5, none, [], 8, 2, 0, 0, 0, 0) := ⟨(zt_in (j := 5) (k := 96) rfl rfl), rfl, (zt_in (j := 1) (k := 7) rfl rfl), (zt_in (j := 5) (k := 95) rfl rfl), Or.inr (zt_in (j := 0) (k := 34) rfl rfl), by decide +kernel, by decide, fun h => absurd h (by decide)⟩
set_option maxRecDepth 100000 in
theorem zt_m_164 : zt_mOK (⟨"ColumnVaultLaw", "groupAt", "(LColumnVault;II[J)I"⟩, method_28_code, 5, some (.int), [(0, 9, 12, 13), (0, 9, 16, 15)], 23, 4, 0, 1, 99999, 0) := ⟨(zt_in (j := 5) (k := 99) rfl rfl), rfl, (zt_in (j := 1) (k := 0) rfl rfl), (zt_in (j := 5) (k := 98) rfl rfl), Or.inl rfl, by decide +kernel, by decide, fun h => absurd h (by decide)⟩
set_option maxRecDepth 100000 in
theorem zt_m_165 : zt_mOK (⟨"ColumnVault", "groupAt", "(II)J"⟩, prog_1_method_29_code, 3, some (.long), [], 15, 2, 0, 0, 0, 0) := ⟨(zt_in (j := 5) (k := 103) rfl rfl), rfl, (zt_in (j := 1) (k := 1) rfl rfl), (zt_in (j := 5) (k := 101) rfl rfl), Or.inr (zt_in (j := 5) (k := 102) rfl rfl), by decide +kernel, by decide, fun h => absurd h (by decide)⟩
set_option maxRecDepth 100000 in
theorem zt_m_166 : zt_mOK (⟨"ColumnVault", "requireGroup", "(I)V"⟩, prog_1_method_46_code, 2, none, [], 15, 1, 0, 0, 0, 0) := ⟨(zt_in (j := 5) (k := 107) rfl rfl), rfl, (zt_in (j := 1) (k := 1) rfl rfl), (zt_in (j := 5) (k := 106) rfl rfl), Or.inr (zt_in (j := 0) (k := 35) rfl rfl), by decide +kernel, by decide, fun h => absurd h (by decide)⟩
set_option maxRecDepth 100000 in
theorem zt_m_167 : zt_mOK (⟨"ColumnVault$Groups", "valueAt", "(I)J"⟩, prog_5_method_6_code, 2, some (.long), [], 8, 1, 0, 0, 0, 0) := ⟨(zt_in (j := 5) (k := 112) rfl rfl), rfl, (zt_in (j := 1) (k := 7) rfl rfl), (zt_in (j := 5) (k := 110) rfl rfl), Or.inr (zt_in (j := 5) (k := 111) rfl rfl), by decide +kernel, by decide, fun h => absurd h (by decide)⟩
set_option maxRecDepth 100000 in
theorem zt_m_168 : zt_mOK (⟨"ColumnVault$Groups", "keyOfGroup", "(I)J"⟩, prog_5_method_5_code, 2, some (.long), [], 8, 1, 0, 0, 0, 0) := ⟨(zt_in (j := 5) (k := 117) rfl rfl), rfl, (zt_in (j := 1) (k := 7) rfl rfl), (zt_in (j := 5) (k := 115) rfl rfl), Or.inr (zt_in (j := 5) (k := 116) rfl rfl), by decide +kernel, by decide, fun h => absurd h (by decide)⟩
set_option maxRecDepth 100000 in
theorem zt_m_169 : zt_mOK (⟨"ColumnVault$Groups", "rowsIn", "(I)J"⟩, prog_5_method_7_code, 2, some (.long), [], 8, 1, 0, 0, 0, 0) := ⟨(zt_in (j := 5) (k := 123) rfl rfl), rfl, (zt_in (j := 1) (k := 7) rfl rfl), (zt_in (j := 5) (k := 121) rfl rfl), Or.inr (zt_in (j := 5) (k := 122) rfl rfl), by decide +kernel, by decide, fun h => absurd h (by decide)⟩
set_option maxRecDepth 100000 in
theorem zt_m_170 : zt_mOK (⟨"ColumnVault$Sheet", "firstOf", "(J)I"⟩, prog_10_method_19_code, 4, some (.int), [], 13, 1, 0, 0, 0, 0) := ⟨(zt_in (j := 5) (k := 127) rfl rfl), rfl, (zt_in (j := 1) (k := 3) rfl rfl), (zt_in (j := 5) (k := 125) rfl rfl), Or.inr (zt_in (j := 5) (k := 126) rfl rfl), by decide +kernel, by decide, fun h => absurd h (by decide)⟩
set_option maxRecDepth 100000 in
theorem zt_m_171 : zt_mOK (⟨"ColumnVault$Sheet", "lastOf", "(J)I"⟩, prog_10_method_20_code, 4, some (.int), [], 13, 1, 0, 0, 0, 0) := ⟨(zt_in (j := 5) (k := 131) rfl rfl), rfl, (zt_in (j := 1) (k := 3) rfl rfl), (zt_in (j := 5) (k := 129) rfl rfl), Or.inr (zt_in (j := 5) (k := 130) rfl rfl), by decide +kernel, by decide, fun h => absurd h (by decide)⟩
set_option maxRecDepth 100000 in
theorem zt_m_172 : zt_mOK (⟨"ColumnVaultLaw", "total", "(LColumnVault;III[J)I"⟩, method_29_code, 6, some (.int), [(0, 11, 14, 13), (0, 11, 18, 15), (0, 11, 22, 107)], 23, 5, 0, 1, 99999, 0) := ⟨(zt_in (j := 5) (k := 135) rfl rfl), rfl, (zt_in (j := 1) (k := 0) rfl rfl), (zt_in (j := 5) (k := 134) rfl rfl), Or.inl rfl, by decide +kernel, by decide, fun h => absurd h (by decide)⟩
set_option maxRecDepth 100000 in
theorem zt_m_173 : zt_mOK (⟨"ColumnVault", "total", "(III)J"⟩, prog_1_method_30_code, 5, some (.long), [], 15, 3, 0, 0, 0, 0) := ⟨(zt_in (j := 5) (k := 140) rfl rfl), rfl, (zt_in (j := 1) (k := 1) rfl rfl), (zt_in (j := 5) (k := 138) rfl rfl), Or.inr (zt_in (j := 5) (k := 139) rfl rfl), by decide +kernel, by decide, fun h => absurd h (by decide)⟩
set_option maxRecDepth 100000 in
theorem zt_m_174 : zt_mOK (⟨"ColumnVault", "totalOf", "(LColumnVault$Sheet;IJI)J"⟩, prog_1_method_62_code, 8, some (.long), [], 15, 4, 0, 1, 99999, 0) := ⟨(zt_in (j := 5) (k := 143) rfl rfl), rfl, (zt_in (j := 1) (k := 1) rfl rfl), (zt_in (j := 5) (k := 142) rfl rfl), Or.inl rfl, by decide +kernel, by decide, fun h => absurd h (by decide)⟩
set_option maxRecDepth 100000 in
theorem zt_m_175 : zt_mOK (⟨"ColumnVault$Sheet", "sumOf", "(IJ)J"⟩, prog_10_method_27_code, 9, some (.long), [], 13, 2, 0, 0, 0, 0) := ⟨(zt_in (j := 5) (k := 149) rfl rfl), rfl, (zt_in (j := 1) (k := 3) rfl rfl), (zt_in (j := 5) (k := 147) rfl rfl), Or.inr (zt_in (j := 5) (k := 148) rfl rfl), by decide +kernel, by decide, fun h => absurd h (by decide)⟩
set_option maxRecDepth 100000 in
theorem zt_m_176 : zt_mOK (⟨"ColumnVault$Sheet", "differentKeys", "(I[I)I"⟩, prog_10_method_29_code, 5, some (.int), [], 13, 2, 0, 0, 0, 0) := ⟨(zt_in (j := 5) (k := 154) rfl rfl), rfl, (zt_in (j := 1) (k := 3) rfl rfl), (zt_in (j := 5) (k := 152) rfl rfl), Or.inr (zt_in (j := 5) (k := 153) rfl rfl), by decide +kernel, by decide, fun h => absurd h (by decide)⟩
set_option maxRecDepth 100000 in
theorem zt_m_177 : zt_mOK (⟨"ColumnVaultLaw", "groupTotal", "(LColumnVault;III[J)I"⟩, method_30_code, 6, some (.int), [(0, 11, 14, 13), (0, 11, 18, 15), (0, 11, 22, 107)], 23, 5, 0, 1, 99999, 0) := ⟨(zt_in (j := 5) (k := 173) rfl rfl), rfl, (zt_in (j := 1) (k := 0) rfl rfl), (zt_in (j := 5) (k := 172) rfl rfl), Or.inl rfl, by decide +kernel, by decide, fun h => absurd h (by decide)⟩
set_option maxRecDepth 100000 in
theorem zt_m_178 : zt_mOK (⟨"ColumnVault", "groupTotal", "(III)J"⟩, prog_1_method_31_code, 4, some (.long), [], 15, 3, 0, 0, 0, 0) := ⟨(zt_in (j := 5) (k := 177) rfl rfl), rfl, (zt_in (j := 1) (k := 1) rfl rfl), (zt_in (j := 5) (k := 175) rfl rfl), Or.inr (zt_in (j := 5) (k := 176) rfl rfl), by decide +kernel, by decide, fun h => absurd h (by decide)⟩
set_option maxRecDepth 100000 in
theorem zt_m_179 : zt_mOK (⟨"ColumnVaultLaw", "running", "(LColumnVault;III[J)I"⟩, method_31_code, 6, some (.int), [(0, 11, 14, 13), (0, 11, 18, 15)], 23, 5, 0, 1, 99999, 0) := ⟨(zt_in (j := 5) (k := 180) rfl rfl), rfl, (zt_in (j := 1) (k := 0) rfl rfl), (zt_in (j := 5) (k := 179) rfl rfl), Or.inl rfl, by decide +kernel, by decide, fun h => absurd h (by decide)⟩
set_option maxRecDepth 100000 in
theorem zt_m_180 : zt_mOK (⟨"ColumnVault", "running", "(III)J"⟩, prog_1_method_32_code, 5, some (.long), [], 15, 3, 0, 0, 0, 0) := ⟨(zt_in (j := 5) (k := 184) rfl rfl), rfl, (zt_in (j := 1) (k := 1) rfl rfl), (zt_in (j := 5) (k := 182) rfl rfl), Or.inr (zt_in (j := 5) (k := 183) rfl rfl), by decide +kernel, by decide, fun h => absurd h (by decide)⟩
set_option maxRecDepth 100000 in
theorem zt_m_181 : zt_mOK (⟨"ColumnVault", "requireNumbers", "(LColumnVault$Sheet;I)V"⟩, prog_1_method_51_code, 2, none, [], 15, 2, 0, 1, 99999, 0) := ⟨(zt_in (j := 5) (k := 187) rfl rfl), rfl, (zt_in (j := 1) (k := 1) rfl rfl), (zt_in (j := 5) (k := 186) rfl rfl), Or.inl rfl, by decide +kernel, by decide, fun h => absurd h (by decide)⟩
set_option maxRecDepth 100000 in
theorem zt_m_182 : zt_mOK (⟨"ColumnVault$Sheet", "rowsUpTo", "(I)J"⟩, prog_10_method_21_code, 5, some (.long), [], 13, 1, 0, 0, 0, 0) := ⟨(zt_in (j := 5) (k := 192) rfl rfl), rfl, (zt_in (j := 1) (k := 3) rfl rfl), (zt_in (j := 5) (k := 190) rfl rfl), Or.inr (zt_in (j := 5) (k := 191) rfl rfl), by decide +kernel, by decide, fun h => absurd h (by decide)⟩
set_option maxRecDepth 100000 in
theorem zt_m_183 : zt_mOK (⟨"ColumnVaultLaw", "rank", "(LColumnVault;IIII[J)I"⟩, method_32_code, 7, some (.int), [(0, 14, 17, 13), (0, 14, 21, 107)], 23, 6, 0, 1, 99999, 0) := ⟨(zt_in (j := 5) (k := 195) rfl rfl), rfl, (zt_in (j := 1) (k := 0) rfl rfl), (zt_in (j := 5) (k := 194) rfl rfl), Or.inl rfl, by decide +kernel, by decide, fun h => absurd h (by decide)⟩
set_option maxRecDepth 100000 in
theorem zt_m_184 : zt_mOK (⟨"ColumnVault", "rank", "(IIII)I"⟩, prog_1_method_33_code, 8, some (.int), [], 15, 4, 0, 0, 0, 0) := ⟨(zt_in (j := 5) (k := 199) rfl rfl), rfl, (zt_in (j := 1) (k := 1) rfl rfl), (zt_in (j := 5) (k := 197) rfl rfl), Or.inr (zt_in (j := 5) (k := 198) rfl rfl), by decide +kernel, by decide, fun h => absurd h (by decide)⟩
set_option maxRecDepth 100000 in
theorem zt_m_185 : zt_mOK (⟨"ColumnVaultLaw", "previous", "(LColumnVault;III[J)I"⟩, method_33_code, 6, some (.int), [(0, 12, 15, 13)], 23, 5, 0, 1, 99999, 0) := ⟨(zt_in (j := 5) (k := 206) rfl rfl), rfl, (zt_in (j := 1) (k := 0) rfl rfl), (zt_in (j := 5) (k := 205) rfl rfl), Or.inl rfl, by decide +kernel, by decide, fun h => absurd h (by decide)⟩
set_option maxRecDepth 100000 in
theorem zt_m_186 : zt_mOK (⟨"ColumnVault", "previous", "(III)I"⟩, prog_1_method_34_code, 6, some (.int), [], 15, 3, 0, 0, 0, 0) := ⟨(zt_in (j := 5) (k := 210) rfl rfl), rfl, (zt_in (j := 1) (k := 1) rfl rfl), (zt_in (j := 5) (k := 208) rfl rfl), Or.inr (zt_in (j := 5) (k := 209) rfl rfl), by decide +kernel, by decide, fun h => absurd h (by decide)⟩
set_option maxRecDepth 100000 in
theorem zt_m_187 : zt_mOK (⟨"ColumnVaultLaw", "between", "(LColumnVault;IIJJ[J)I"⟩, method_34_code, 9, some (.int), [(0, 14, 17, 13), (0, 14, 21, 15)], 23, 6, 0, 1, 99999, 0) := ⟨(zt_in (j := 5) (k := 213) rfl rfl), rfl, (zt_in (j := 1) (k := 0) rfl rfl), (zt_in (j := 5) (k := 212) rfl rfl), Or.inl rfl, by decide +kernel, by decide, fun h => absurd h (by decide)⟩
set_option maxRecDepth 100000 in
theorem zt_m_188 : zt_mOK (⟨"ColumnVault", "between", "(IIJJ)I"⟩, prog_1_method_35_code, 9, some (.int), [], 15, 4, 0, 0, 0, 0) := ⟨(zt_in (j := 5) (k := 217) rfl rfl), rfl, (zt_in (j := 1) (k := 1) rfl rfl), (zt_in (j := 5) (k := 215) rfl rfl), Or.inr (zt_in (j := 5) (k := 216) rfl rfl), by decide +kernel, by decide, fun h => absurd h (by decide)⟩
set_option maxRecDepth 100000 in
theorem zt_m_189 : zt_mOK (⟨"ColumnVaultLaw", "nearest", "(LColumnVault;IIJZ[J)I"⟩, method_35_code, 8, some (.int), [(0, 13, 16, 13), (0, 13, 20, 15), (0, 13, 24, 107)], 23, 6, 0, 1, 99999, 0) := ⟨(zt_in (j := 5) (k := 220) rfl rfl), rfl, (zt_in (j := 1) (k := 0) rfl rfl), (zt_in (j := 5) (k := 219) rfl rfl), Or.inl rfl, by decide +kernel, by decide, fun h => absurd h (by decide)⟩
set_option maxRecDepth 100000 in
theorem zt_m_190 : zt_mOK (⟨"ColumnVault", "nearest", "(IIJZ)J"⟩, prog_1_method_36_code, 10, some (.long), [], 15, 4, 0, 0, 0, 0) := ⟨(zt_in (j := 5) (k := 224) rfl rfl), rfl, (zt_in (j := 1) (k := 1) rfl rfl), (zt_in (j := 5) (k := 222) rfl rfl), Or.inr (zt_in (j := 5) (k := 223) rfl rfl), by decide +kernel, by decide, fun h => absurd h (by decide)⟩
set_option maxRecDepth 100000 in
theorem zt_m_191 : zt_mOK (⟨"ColumnVault$Sheet", "nearestKey", "(IJZ)J"⟩, prog_10_method_26_code, 11, some (.long), [], 13, 3, 0, 0, 0, 0) := ⟨(zt_in (j := 5) (k := 228) rfl rfl), rfl, (zt_in (j := 1) (k := 3) rfl rfl), (zt_in (j := 5) (k := 226) rfl rfl), Or.inr (zt_in (j := 5) (k := 227) rfl rfl), by decide +kernel, by decide, fun h => absurd h (by decide)⟩
set_option maxRecDepth 100000 in
theorem zt_m_192 : zt_mOK (⟨"ColumnVaultLaw", "alike", "(LColumnVault;III[J)I"⟩, method_36_code, 6, some (.int), [(0, 12, 15, 13), (0, 12, 19, 15)], 23, 5, 0, 1, 99999, 0) := ⟨(zt_in (j := 5) (k := 233) rfl rfl), rfl, (zt_in (j := 1) (k := 0) rfl rfl), (zt_in (j := 5) (k := 232) rfl rfl), Or.inl rfl, by decide +kernel, by decide, fun h => absurd h (by decide)⟩
set_option maxRecDepth 100000 in
theorem zt_m_193 : zt_mOK (⟨"ColumnVault", "alike", "(III)I"⟩, prog_1_method_37_code, 6, some (.int), [], 15, 3, 0, 0, 0, 0) := ⟨(zt_in (j := 5) (k := 237) rfl rfl), rfl, (zt_in (j := 1) (k := 1) rfl rfl), (zt_in (j := 5) (k := 235) rfl rfl), Or.inr (zt_in (j := 5) (k := 236) rfl rfl), by decide +kernel, by decide, fun h => absurd h (by decide)⟩
set_option maxRecDepth 100000 in
theorem zt_m_194 : zt_mOK (⟨"ColumnVault$Sheet", "hasKindsOf", "(LColumnVault$Sheet;)Z"⟩, prog_10_method_5_code, 4, some (.boolean), [], 13, 1, 0, 0, 0, 0) := ⟨(zt_in (j := 6) (k := 1) rfl rfl), rfl, (zt_in (j := 1) (k := 3) rfl rfl), (zt_in (j := 5) (k := 239) rfl rfl), Or.inr (zt_in (j := 6) (k := 0) rfl rfl), by decide +kernel, by decide, fun h => absurd h (by decide)⟩
set_option maxRecDepth 100000 in
theorem zt_m_195 : zt_mOK (⟨"ColumnVault$Sheet", "rowsLeftBy", "(LColumnVault$Sheet;)I"⟩, prog_10_method_34_code, 7, some (.int), [], 13, 1, 0, 0, 0, 0) := ⟨(zt_in (j := 6) (k := 6) rfl rfl), rfl, (zt_in (j := 1) (k := 3) rfl rfl), (zt_in (j := 6) (k := 4) rfl rfl), Or.inr (zt_in (j := 6) (k := 5) rfl rfl), by decide +kernel, by decide, fun h => absurd h (by decide)⟩
set_option maxRecDepth 100000 in
theorem zt_m_196 : zt_mOK (⟨"ColumnVault$Sheet", "chosenAlike", "(ILColumnVault$Sheet;)J"⟩, prog_10_method_31_code, 6, some (.long), [], 13, 2, 0, 0, 0, 0) := ⟨(zt_in (j := 6) (k := 10) rfl rfl), rfl, (zt_in (j := 1) (k := 3) rfl rfl), (zt_in (j := 6) (k := 9) rfl rfl), Or.inr (zt_in (j := 0) (k := 36) rfl rfl), by decide +kernel, by decide, fun h => absurd h (by decide)⟩
set_option maxRecDepth 100000 in
theorem zt_m_197 : zt_mOK (⟨"ColumnVault$Sheet", "isAlike", "(ILColumnVault$Sheet;I)Z"⟩, prog_10_method_30_code, 5, some (.boolean), [], 13, 3, 0, 0, 0, 0) := ⟨(zt_in (j := 6) (k := 14) rfl rfl), rfl, (zt_in (j := 1) (k := 3) rfl rfl), (zt_in (j := 6) (k := 13) rfl rfl), Or.inr (zt_in (j := 0) (k := 37) rfl rfl), by decide +kernel, by decide, fun h => absurd h (by decide)⟩
set_option maxRecDepth 100000 in
theorem zt_m_198 : zt_mOK (⟨"ColumnVault$Sheet", "differentRows", "()J"⟩, prog_10_method_32_code, 4, some (.long), [], 13, 0, 0, 0, 0, 0) := ⟨(zt_in (j := 6) (k := 18) rfl rfl), rfl, (zt_in (j := 1) (k := 3) rfl rfl), (zt_in (j := 6) (k := 16) rfl rfl), Or.inr (zt_in (j := 6) (k := 17) rfl rfl), by decide +kernel, by decide, fun h => absurd h (by decide)⟩
set_option maxRecDepth 100000 in
theorem zt_m_199 : zt_mOK (⟨"ColumnVault$Sheet", "differentRowsOnlyHere", "(LColumnVault$Sheet;)I"⟩, prog_10_method_33_code, 6, some (.int), [], 13, 1, 0, 0, 0, 0) := ⟨(zt_in (j := 6) (k := 22) rfl rfl), rfl, (zt_in (j := 1) (k := 3) rfl rfl), (zt_in (j := 6) (k := 20) rfl rfl), Or.inr (zt_in (j := 6) (k := 21) rfl rfl), by decide +kernel, by decide, fun h => absurd h (by decide)⟩
set_option maxRecDepth 100000 in
theorem zt_m_200 : zt_mOK (⟨"ColumnVaultLaw", "errors", "(LColumnVault;I[J)I"⟩, method_37_code, 4, some (.int), [(0, 9, 12, 13)], 23, 3, 0, 1, 99999, 0) := ⟨(zt_in (j := 6) (k := 27) rfl rfl), rfl, (zt_in (j := 1) (k := 0) rfl rfl), (zt_in (j := 6) (k := 26) rfl rfl), Or.inl rfl, by decide +kernel, by decide, fun h => absurd h (by decide)⟩
set_option maxRecDepth 100000 in
theorem zt_m_201 : zt_mOK (⟨"ColumnVault", "errors", "(I)I"⟩, prog_1_method_38_code, 2, some (.int), [], 15, 1, 0, 0, 0, 0) := ⟨(zt_in (j := 6) (k := 31) rfl rfl), rfl, (zt_in (j := 1) (k := 1) rfl rfl), (zt_in (j := 6) (k := 29) rfl rfl), Or.inr (zt_in (j := 6) (k := 30) rfl rfl), by decide +kernel, by decide, fun h => absurd h (by decide)⟩
set_option maxRecDepth 100000 in
theorem zt_m_202 : zt_mOK (⟨"ColumnVault$Checks", "failuresOf", "(LColumnVault$Sheet;)I"⟩, prog_2_method_2_code, 5, some (.int), [], 5, 1, 0, 0, 0, 0) := ⟨(zt_in (j := 6) (k := 35) rfl rfl), rfl, (zt_in (j := 1) (k := 8) rfl rfl), (zt_in (j := 6) (k := 33) rfl rfl), Or.inr (zt_in (j := 6) (k := 34) rfl rfl), by decide +kernel, by decide, fun h => absurd h (by decide)⟩
set_option maxRecDepth 100000 in
theorem zt_m_203 : zt_mOK (⟨"ColumnVault$Checks", "isInBothOrders", "(LColumnVault$Sheet;II)Z"⟩, prog_2_method_3_code, 5, some (.boolean), [], 5, 3, 0, 0, 0, 0) := ⟨(zt_in (j := 6) (k := 39) rfl rfl), rfl, (zt_in (j := 1) (k := 8) rfl rfl), (zt_in (j := 6) (k := 38) rfl rfl), Or.inr (zt_in (j := 0) (k := 38) rfl rfl), by decide +kernel, by decide, fun h => absurd h (by decide)⟩
set_option maxRecDepth 100000 in
theorem zt_m_204 : zt_mOK (⟨"ColumnVault$Checks", "standsAhead", "(LColumnVault$Sheet;IIII)Z"⟩, prog_2_method_4_code, 10, some (.boolean), [], 5, 5, 0, 0, 0, 0) := ⟨(zt_in (j := 6) (k := 46) rfl rfl), rfl, (zt_in (j := 1) (k := 8) rfl rfl), (zt_in (j := 6) (k := 45) rfl rfl), Or.inr (zt_in (j := 0) (k := 39) rfl rfl), by decide +kernel, by decide, fun h => absurd h (by decide)⟩
set_option maxRecDepth 100000 in
theorem zt_m_205 : zt_mOK (⟨"ColumnVault$Checks", "groupFailures", "(LColumnVault$Sheet;I)I"⟩, prog_2_method_5_code, 6, some (.int), [], 5, 2, 0, 0, 0, 0) := ⟨(zt_in (j := 6) (k := 55) rfl rfl), rfl, (zt_in (j := 1) (k := 8) rfl rfl), (zt_in (j := 6) (k := 54) rfl rfl), Or.inr (zt_in (j := 0) (k := 40) rfl rfl), by decide +kernel, by decide, fun h => absurd h (by decide)⟩
set_option maxRecDepth 100000 in
theorem zt_m_206 : zt_mOK (⟨"ColumnVault$Checks", "sumOfGroups", "(I)J"⟩, prog_2_method_6_code, 5, some (.long), [], 5, 1, 0, 0, 0, 0) := ⟨(zt_in (j := 6) (k := 63) rfl rfl), rfl, (zt_in (j := 1) (k := 8) rfl rfl), (zt_in (j := 6) (k := 62) rfl rfl), Or.inr (zt_in (j := 0) (k := 41) rfl rfl), by decide +kernel, by decide, fun h => absurd h (by decide)⟩
set_option maxRecDepth 100000 in
theorem zt_m_207 : zt_mOK (⟨"ColumnVault$Checks", "rangeFailures", "(LColumnVault$Sheet;I)I"⟩, prog_2_method_7_code, 5, some (.int), [], 5, 2, 0, 0, 0, 0) := ⟨(zt_in (j := 6) (k := 68) rfl rfl), rfl, (zt_in (j := 1) (k := 8) rfl rfl), (zt_in (j := 6) (k := 67) rfl rfl), Or.inr (zt_in (j := 0) (k := 42) rfl rfl), by decide +kernel, by decide, fun h => absurd h (by decide)⟩
set_option maxRecDepth 100000 in
theorem zt_m_208 : zt_mOK (⟨"ColumnVault$Checks", "failuresFrom", "(IJ)I"⟩, prog_2_method_8_code, 7, some (.int), [], 5, 2, 0, 0, 0, 0) := ⟨(zt_in (j := 6) (k := 77) rfl rfl), rfl, (zt_in (j := 1) (k := 8) rfl rfl), (zt_in (j := 6) (k := 76) rfl rfl), Or.inr (zt_in (j := 0) (k := 43) rfl rfl), by decide +kernel, by decide, fun h => absurd h (by decide)⟩
set_option maxRecDepth 100000 in
theorem zt_m_209 : zt_mOK (⟨"ColumnVaultLaw", "meanOf", "(LColumnVault;II[D)I"⟩, method_38_code, 5, some (.int), [(0, 9, 12, 13), (0, 9, 16, 15)], 23, 4, 0, 1, 99999, 0) := ⟨(zt_in (j := 6) (k := 80) rfl rfl), rfl, (zt_in (j := 1) (k := 0) rfl rfl), (zt_in (j := 6) (k := 79) rfl rfl), Or.inl rfl, by decide +kernel, by decide, fun h => absurd h (by decide)⟩
set_option maxRecDepth 100000 in
theorem zt_m_210 : zt_mOK (⟨"ColumnVault", "meanOf", "(II)D"⟩, prog_1_method_39_code, 5, some (.double), [], 15, 2, 0, 0, 0, 0) := ⟨(zt_in (j := 6) (k := 84) rfl rfl), rfl, (zt_in (j := 1) (k := 1) rfl rfl), (zt_in (j := 6) (k := 82) rfl rfl), Or.inr (zt_in (j := 6) (k := 83) rfl rfl), by decide +kernel, by decide, fun h => absurd h (by decide)⟩
set_option maxRecDepth 100000 in
theorem zt_m_211 : zt_mOK (⟨"ColumnVaultLaw", "chosenShare", "(LColumnVault;I[D)I"⟩, method_39_code, 4, some (.int), [(0, 9, 12, 13)], 23, 3, 0, 1, 99999, 0) := ⟨(zt_in (j := 6) (k := 87) rfl rfl), rfl, (zt_in (j := 1) (k := 0) rfl rfl), (zt_in (j := 6) (k := 86) rfl rfl), Or.inl rfl, by decide +kernel, by decide, fun h => absurd h (by decide)⟩
set_option maxRecDepth 100000 in
theorem zt_m_212 : zt_mOK (⟨"ColumnVault", "chosenShare", "(I)F"⟩, prog_1_method_40_code, 3, some (.float), [], 15, 1, 0, 0, 0, 0) := ⟨(zt_in (j := 6) (k := 91) rfl rfl), rfl, (zt_in (j := 1) (k := 1) rfl rfl), (zt_in (j := 6) (k := 89) rfl rfl), Or.inr (zt_in (j := 6) (k := 90) rfl rfl), by decide +kernel, by decide, fun h => absurd h (by decide)⟩
set_option maxRecDepth 100000 in
theorem zt_m_213 : zt_mOK (⟨"ColumnVaultModel", "thrown", "()I"⟩, prog_13_method_1_code, 1, some (.int), [], 18, 0, 0, 0, 0, 0) := ⟨(zt_in (j := 6) (k := 95) rfl rfl), rfl, (zt_in (j := 1) (k := 9) rfl rfl), (zt_in (j := 6) (k := 93) rfl rfl), Or.inr (zt_in (j := 6) (k := 94) rfl rfl), by decide +kernel, by decide, fun h => absurd h (by decide)⟩
set_option maxRecDepth 100000 in
theorem zt_m_214 : zt_mOK (⟨"ColumnVaultModel", "<init>", "()V"⟩, prog_13_method_8_code, 2, none, [], 18, 0, 0, 2, 99999, 0) := ⟨(zt_in (j := 6) (k := 100) rfl rfl), rfl, (zt_in (j := 1) (k := 9) rfl rfl), (zt_in (j := 6) (k := 99) rfl rfl), Or.inl rfl, by decide +kernel, by decide, fun _ => rfl⟩
set_option maxRecDepth 100000 in
theorem zt_m_215 : zt_mOK (⟨"ColumnVaultModel$Table", "<init>", "()V"⟩, prog_15_method_1_code, 1, none, [], 17, 0, 0, 2, 99999, 0) := ⟨(zt_in (j := 6) (k := 107) rfl rfl), rfl, (zt_in (j := 1) (k := 10) rfl rfl), (zt_in (j := 6) (k := 106) rfl rfl), Or.inl rfl, by decide +kernel, by decide, fun _ => rfl⟩
set_option maxRecDepth 100000 in
theorem zt_m_216 : zt_mOK (⟨"java/util/ArrayList", "<init>", "()V"⟩, prog_45_method_2_code, 1, none, [], 4, 0, 0, 2, 99999, 0) := ⟨(zt_in (j := 6) (k := 113) rfl rfl), rfl, (zt_in (j := 1) (k := 13) rfl rfl), (zt_in (j := 6) (k := 112) rfl rfl), Or.inl rfl, by decide +kernel, by decide, fun _ => rfl⟩
set_option maxRecDepth 100000 in
theorem zt_m_217 : zt_mOK (⟨"java/util/AbstractList", "<init>", "()V"⟩, prog_44_method_1_code, 1, none, [], 28, 0, 0, 2, 99999, 0) := ⟨(zt_in (j := 6) (k := 116) rfl rfl), rfl, (zt_in (j := 1) (k := 12) rfl rfl), (zt_in (j := 6) (k := 115) rfl rfl), Or.inl rfl, by decide +kernel, by decide, fun _ => rfl⟩
set_option maxRecDepth 100000 in
theorem zt_m_218 : zt_mOK (⟨"java/util/AbstractCollection", "<init>", "()V"⟩, prog_43_method_1_code, 1, none, [], 29, 0, 0, 2, 99999, 0) := ⟨(zt_in (j := 6) (k := 119) rfl rfl), rfl, (zt_in (j := 1) (k := 11) rfl rfl), (zt_in (j := 6) (k := 118) rfl rfl), Or.inl rfl, by decide +kernel, by decide, fun _ => rfl⟩
set_option maxRecDepth 100000 in
theorem zt_m_219 : zt_mOK (⟨"ColumnVaultModel", "copies", "([LColumnVaultModel$Table;)[LColumnVaultModel$Table;"⟩, prog_13_method_9_code, 3, some (.array (.object "ColumnVaultModel$Table")), [], 18, 1, 0, 1, 99999, 0) := ⟨(zt_in (j := 6) (k := 156) rfl rfl), rfl, (zt_in (j := 1) (k := 9) rfl rfl), (zt_in (j := 6) (k := 155) rfl rfl), Or.inl rfl, by decide +kernel, by decide, fun h => absurd h (by decide)⟩
set_option maxRecDepth 100000 in
theorem zt_m_220 : zt_mOK (⟨"ColumnVaultModel$Table", "copy", "()LColumnVaultModel$Table;"⟩, prog_15_method_2_code, 5, some (.object "ColumnVaultModel$Table"), [], 17, 0, 0, 0, 0, 0) := ⟨(zt_in (j := 6) (k := 160) rfl rfl), rfl, (zt_in (j := 1) (k := 10) rfl rfl), (zt_in (j := 6) (k := 158) rfl rfl), Or.inr (zt_in (j := 6) (k := 159) rfl rfl), by decide +kernel, by decide, fun h => absurd h (by decide)⟩
set_option maxRecDepth 100000 in
theorem zt_m_221 : zt_mOK (⟨"java/util/ArrayList", "size", "()I"⟩, prog_45_method_8_code, 1, some (.int), [], 4, 0, 0, 0, 99999, 0) := ⟨(zt_in (j := 6) (k := 172) rfl rfl), rfl, (zt_in (j := 1) (k := 13) rfl rfl), (zt_in (j := 6) (k := 170) rfl rfl), Or.inl rfl, by decide +kernel, by decide, fun h => absurd h (by decide)⟩
set_option maxRecDepth 100000 in
theorem zt_m_222 : zt_mOK (⟨"java/util/ArrayList", "get", "(I)Ljava/lang/Object;"⟩, prog_45_method_20_code, 2, some (.object "java/lang/Object"), [], 4, 1, 0, 0, 99999, 0) := ⟨(zt_in (j := 6) (k := 181) rfl rfl), rfl, (zt_in (j := 1) (k := 13) rfl rfl), (zt_in (j := 6) (k := 179) rfl rfl), Or.inl rfl, by decide +kernel, by decide, fun h => absurd h (by decide)⟩
set_option maxRecDepth 100000 in
theorem zt_m_223 : zt_mOK (⟨"java/util/Objects", "checkIndex", "(II)I"⟩, prog_50_method_17_code, 2, some (.int), [], 30, 2, 0, 1, 99999, 0) := ⟨(zt_in (j := 6) (k := 184) rfl rfl), rfl, (zt_in (j := 1) (k := 14) rfl rfl), (zt_in (j := 6) (k := 183) rfl rfl), Or.inl rfl, by decide +kernel, by decide, fun h => absurd h (by decide)⟩
set_option maxRecDepth 100000 in
theorem zt_m_224 : zt_mOK (⟨"java/util/ArrayList", "elementData", "(I)Ljava/lang/Object;"⟩, prog_45_method_18_code, 2, some (.object "java/lang/Object"), [], 4, 1, 0, 0, 0, 0) := ⟨(zt_in (j := 6) (k := 189) rfl rfl), rfl, (zt_in (j := 1) (k := 13) rfl rfl), (zt_in (j := 6) (k := 187) rfl rfl), Or.inr (zt_in (j := 6) (k := 188) rfl rfl), by decide +kernel, by decide, fun h => absurd h (by decide)⟩
set_option maxRecDepth 100000 in
theorem zt_m_225 : zt_mOK (⟨"java/util/ArrayList", "add", "(Ljava/lang/Object;)Z"⟩, prog_45_method_25_code, 2, some (.boolean), [], 4, 1, 0, 0, 99999, 0) := ⟨(zt_in (j := 6) (k := 199) rfl rfl), rfl, (zt_in (j := 1) (k := 13) rfl rfl), (zt_in (j := 6) (k := 197) rfl rfl), Or.inl rfl, by decide +kernel, by decide, fun h => absurd h (by decide)⟩
set_option maxRecDepth 100000 in
theorem zt_m_226 : zt_mOK (⟨"java/util/ArrayList", "add", "(Ljava/lang/Object;[Ljava/lang/Object;I)V"⟩, prog_45_method_24_code, 4, none, [], 4, 3, 0, 0, 0, 0) := ⟨(zt_in (j := 6) (k := 203) rfl rfl), rfl, (zt_in (j := 1) (k := 13) rfl rfl), (zt_in (j := 6) (k := 202) rfl rfl), Or.inr (zt_in (j := 0) (k := 44) rfl rfl), by decide +kernel, by decide, fun h => absurd h (by decide)⟩
set_option maxRecDepth 100000 in
theorem zt_m_227 : zt_mOK (⟨"java/util/ArrayList", "grow", "()[Ljava/lang/Object;"⟩, prog_45_method_7_code, 1, some (.array (.object "java/lang/Object")), [], 4, 0, 0, 0, 0, 0) := ⟨(zt_in (j := 6) (k := 207) rfl rfl), rfl, (zt_in (j := 1) (k := 13) rfl rfl), (zt_in (j := 6) (k := 206) rfl rfl), Or.inr (zt_in (j := 0) (k := 45) rfl rfl), by decide +kernel, by decide, fun h => absurd h (by decide)⟩
set_option maxRecDepth 100000 in
theorem zt_m_228 : zt_mOK (⟨"java/util/ArrayList", "grow", "(I)[Ljava/lang/Object;"⟩, prog_45_method_6_code, 4, some (.array (.object "java/lang/Object")), [], 4, 1, 0, 0, 0, 0) := ⟨(zt_in (j := 6) (k := 211) rfl rfl), rfl, (zt_in (j := 1) (k := 13) rfl rfl), (zt_in (j := 6) (k := 210) rfl rfl), Or.inr (zt_in (j := 0) (k := 46) rfl rfl), by decide +kernel, by decide, fun h => absurd h (by decide)⟩
set_option maxRecDepth 100000 in
theorem zt_m_229 : zt_mOK (⟨"jdk/internal/util/ArraysSupport", "newLength", "(III)I"⟩, prog_53_method_27_code, 4, some (.int), [], 31, 3, 0, 1, 99999, 0) := ⟨(zt_in (j := 6) (k := 214) rfl rfl), rfl, (zt_in (j := 1) (k := 16) rfl rfl), (zt_in (j := 6) (k := 213) rfl rfl), Or.inl rfl, by decide +kernel, by decide, fun h => absurd h (by decide)⟩
set_option maxRecDepth 100000 in
theorem zt_m_230 : zt_mOK (⟨"jdk/internal/util/ArraysSupport", "hugeLength", "(II)I"⟩, prog_53_method_28_code, 3, some (.int), [], 31, 2, 0, 1, 99999, 0) := ⟨(zt_in (j := 6) (k := 219) rfl rfl), rfl, (zt_in (j := 1) (k := 16) rfl rfl), (zt_in (j := 6) (k := 218) rfl rfl), Or.inl rfl, by decide +kernel, by decide, fun h => absurd h (by decide)⟩
set_option maxRecDepth 100000 in
theorem zt_m_231 : zt_mOK (⟨"java/util/Arrays", "copyOf", "([Ljava/lang/Object;I)[Ljava/lang/Object;"⟩, prog_46_method_119_code, 2, some (.array (.object "java/lang/Object")), [], 32, 2, 0, 1, 99999, 0) := ⟨(zt_in (j := 6) (k := 222) rfl rfl), rfl, (zt_in (j := 1) (k := 18) rfl rfl), (zt_in (j := 6) (k := 221) rfl rfl), Or.inl rfl, by decide +kernel, by decide, fun h => absurd h (by decide)⟩
set_option maxRecDepth 100000 in
theorem zt_m_232 : zt_mOK (⟨"java/util/Arrays", "copyOf", "([Ljava/lang/Object;ILjava/lang/Class;)[Ljava/lang/Object;"⟩, prog_46_method_120_code, 4, some (.array (.object "java/lang/Object")), [], 32, 3, 0, 1, 99999, 0) := ⟨(zt_in (j := 7) (k := 13) rfl rfl), rfl, (zt_in (j := 1) (k := 18) rfl rfl), (zt_in (j := 7) (k := 12) rfl rfl), Or.inl rfl, by decide +kernel, by decide, fun h => absurd h (by decide)⟩
set_option maxRecDepth 100000 in
theorem zt_m_233 : zt_mOK (⟨"java/lang/Math", "min", "(II)I"⟩, prog_32_method_69_code, 2, some (.int), [], 24, 2, 0, 1, 99999, 0) := ⟨(zt_in (j := 7) (k := 19) rfl rfl), rfl, (zt_in (j := 1) (k := 17) rfl rfl), (zt_in (j := 7) (k := 18) rfl rfl), Or.inl rfl, by decide +kernel, by decide, fun h => absurd h (by decide)⟩
set_option maxRecDepth 100000 in
theorem zt_m_234 : zt_mOK (⟨"ColumnVaultModel", "addColumn", "(II)I"⟩, prog_13_method_14_code, 5, some (.int), [], 18, 2, 0, 0, 0, 0) := ⟨(zt_in (j := 7) (k := 79) rfl rfl), rfl, (zt_in (j := 1) (k := 9) rfl rfl), (zt_in (j := 7) (k := 77) rfl rfl), Or.inr (zt_in (j := 7) (k := 78) rfl rfl), by decide +kernel, by decide, fun h => absurd h (by decide)⟩
set_option maxRecDepth 100000 in
theorem zt_m_235 : zt_mOK (⟨"ColumnVaultModel", "isTable", "(I)Z"⟩, prog_13_method_11_code, 1, some (.boolean), [], 18, 1, 0, 1, 99999, 0) := ⟨(zt_in (j := 7) (k := 82) rfl rfl), rfl, (zt_in (j := 1) (k := 9) rfl rfl), (zt_in (j := 7) (k := 81) rfl rfl), Or.inl rfl, by decide +kernel, by decide, fun h => absurd h (by decide)⟩
set_option maxRecDepth 100000 in
theorem zt_m_236 : zt_mOK (⟨"ColumnVaultModel", "in", "(JJJ)Z"⟩, prog_13_method_2_code, 6, some (.boolean), [], 18, 3, 0, 1, 99999, 0) := ⟨(zt_in (j := 7) (k := 86) rfl rfl), rfl, (zt_in (j := 1) (k := 9) rfl rfl), (zt_in (j := 7) (k := 85) rfl rfl), Or.inl rfl, by decide +kernel, by decide, fun h => absurd h (by decide)⟩
set_option maxRecDepth 100000 in
theorem zt_m_237 : zt_mOK (⟨"ColumnVaultModel$Table", "columns", "()I"⟩, prog_15_method_3_code, 1, some (.int), [], 17, 0, 0, 0, 0, 0) := ⟨(zt_in (j := 7) (k := 90) rfl rfl), rfl, (zt_in (j := 1) (k := 10) rfl rfl), (zt_in (j := 7) (k := 88) rfl rfl), Or.inr (zt_in (j := 7) (k := 89) rfl rfl), by decide +kernel, by decide, fun h => absurd h (by decide)⟩
set_option maxRecDepth 100000 in
theorem zt_m_238 : zt_mOK (⟨"ColumnVaultModel", "passes", "(ZZZ)Z"⟩, prog_13_method_3_code, 4, some (.boolean), [], 18, 3, 0, 0, 0, 0) := ⟨(zt_in (j := 7) (k := 94) rfl rfl), rfl, (zt_in (j := 1) (k := 9) rfl rfl), (zt_in (j := 7) (k := 93) rfl rfl), Or.inr (zt_in (j := 0) (k := 47) rfl rfl), by decide +kernel, by decide, fun h => absurd h (by decide)⟩
set_option maxRecDepth 100000 in
theorem zt_m_239 : zt_mOK (⟨"java/lang/Integer", "valueOf", "(I)Ljava/lang/Integer;"⟩, prog_27_method_22_code, 1, some (.object "java/lang/Integer"), [], 2, 1, 0, 1, 99999, 0) := ⟨(zt_in (j := 7) (k := 97) rfl rfl), rfl, (zt_in (j := 1) (k := 27) rfl rfl), (zt_in (j := 7) (k := 96) rfl rfl), Or.inl rfl, by decide +kernel, by decide, fun h => absurd h (by decide)⟩
set_option maxRecDepth 100000 in
theorem zt_m_240 : zt_mOK (⟨"java/lang/Integer", "<init>", "(I)V"⟩, prog_27_method_23_code, 2, none, [], 2, 1, 0, 2, 99999, 0) := ⟨(zt_in (j := 7) (k := 106) rfl rfl), rfl, (zt_in (j := 1) (k := 27) rfl rfl), (zt_in (j := 7) (k := 105) rfl rfl), Or.inl rfl, by decide +kernel, by decide, fun _ => rfl⟩
set_option maxRecDepth 100000 in
theorem zt_m_241 : zt_mOK (⟨"java/lang/Number", "<init>", "()V"⟩, prog_33_method_1_code, 1, none, [], 33, 0, 0, 2, 99999, 0) := ⟨(zt_in (j := 7) (k := 109) rfl rfl), rfl, (zt_in (j := 1) (k := 26) rfl rfl), (zt_in (j := 7) (k := 108) rfl rfl), Or.inl rfl, by decide +kernel, by decide, fun _ => rfl⟩
set_option maxRecDepth 100000 in
theorem zt_m_242 : zt_mOK (⟨"ColumnVaultModel", "changed", "(I)I"⟩, prog_13_method_10_code, 4, some (.int), [], 18, 1, 0, 0, 0, 0) := ⟨(zt_in (j := 7) (k := 118) rfl rfl), rfl, (zt_in (j := 1) (k := 9) rfl rfl), (zt_in (j := 7) (k := 117) rfl rfl), Or.inr (zt_in (j := 0) (k := 48) rfl rfl), by decide +kernel, by decide, fun h => absurd h (by decide)⟩
set_option maxRecDepth 100000 in
theorem zt_m_243 : zt_mOK (⟨"java/util/ArrayList", "remove", "(I)Ljava/lang/Object;"⟩, prog_45_method_29_code, 4, some (.object "java/lang/Object"), [], 4, 1, 0, 0, 99999, 0) := ⟨(zt_in (j := 7) (k := 129) rfl rfl), rfl, (zt_in (j := 1) (k := 13) rfl rfl), (zt_in (j := 7) (k := 127) rfl rfl), Or.inl rfl, by decide +kernel, by decide, fun h => absurd h (by decide)⟩
set_option maxRecDepth 100000 in
theorem zt_m_244 : zt_mOK (⟨"java/util/ArrayList", "fastRemove", "([Ljava/lang/Object;I)V"⟩, prog_45_method_39_code, 4, none, [], 4, 2, 0, 0, 0, 0) := ⟨(zt_in (j := 7) (k := 133) rfl rfl), rfl, (zt_in (j := 1) (k := 13) rfl rfl), (zt_in (j := 7) (k := 132) rfl rfl), Or.inr (zt_in (j := 0) (k := 49) rfl rfl), by decide +kernel, by decide, fun h => absurd h (by decide)⟩
set_option maxRecDepth 100000 in
theorem zt_m_245 : zt_mOK (⟨"ColumnVaultModel", "addRow", "(I)I"⟩, prog_13_method_15_code, 3, some (.int), [], 18, 1, 0, 0, 0, 0) := ⟨(zt_in (j := 7) (k := 139) rfl rfl), rfl, (zt_in (j := 1) (k := 9) rfl rfl), (zt_in (j := 7) (k := 137) rfl rfl), Or.inr (zt_in (j := 7) (k := 138) rfl rfl), by decide +kernel, by decide, fun h => absurd h (by decide)⟩
set_option maxRecDepth 100000 in
theorem zt_m_246 : zt_mOK (⟨"ColumnVaultModel$Table", "rows", "()I"⟩, prog_15_method_4_code, 1, some (.int), [], 17, 0, 0, 0, 0, 0) := ⟨(zt_in (j := 7) (k := 143) rfl rfl), rfl, (zt_in (j := 1) (k := 10) rfl rfl), (zt_in (j := 7) (k := 141) rfl rfl), Or.inr (zt_in (j := 7) (k := 142) rfl rfl), by decide +kernel, by decide, fun h => absurd h (by decide)⟩
set_option maxRecDepth 100000 in
theorem zt_m_247 : zt_mOK (⟨"ColumnVaultModel$Table", "addRow", "()I"⟩, prog_15_method_9_code, 3, some (.int), [], 17, 0, 0, 0, 0, 0) := ⟨(zt_in (j := 7) (k := 147) rfl rfl), rfl, (zt_in (j := 1) (k := 10) rfl rfl), (zt_in (j := 7) (k := 145) rfl rfl), Or.inr (zt_in (j := 7) (k := 146) rfl rfl), by decide +kernel, by decide, fun h => absurd h (by decide)⟩
set_option maxRecDepth 100000 in
theorem zt_m_248 : zt_mOK (⟨"java/lang/Boolean", "valueOf", "(Z)Ljava/lang/Boolean;"⟩, prog_19_method_5_code, 1, some (.object "java/lang/Boolean"), [], 34, 1, 0, 1, 99999, 0) := ⟨(zt_in (j := 7) (k := 152) rfl rfl), rfl, (zt_in (j := 1) (k := 29) rfl rfl), (zt_in (j := 7) (k := 151) rfl rfl), Or.inl rfl, by decide +kernel, by decide, fun h => absurd h (by decide)⟩
set_option maxRecDepth 100000 in
theorem zt_m_249 : zt_mOK (⟨"ColumnVaultModel", "fill", "(IIIII)I"⟩, prog_13_method_16_code, 10, some (.int), [], 18, 5, 0, 0, 0, 0) := ⟨(zt_in (j := 7) (k := 160) rfl rfl), rfl, (zt_in (j := 1) (k := 9) rfl rfl), (zt_in (j := 7) (k := 158) rfl rfl), Or.inr (zt_in (j := 7) (k := 159) rfl rfl), by decide +kernel, by decide, fun h => absurd h (by decide)⟩
set_option maxRecDepth 100000 in
theorem zt_m_250 : zt_mOK (⟨"ColumnVaultModel", "isColumn", "(II)Z"⟩, prog_13_method_12_code, 3, some (.boolean), [], 18, 2, 0, 0, 0, 0) := ⟨(zt_in (j := 7) (k := 164) rfl rfl), rfl, (zt_in (j := 1) (k := 9) rfl rfl), (zt_in (j := 7) (k := 163) rfl rfl), Or.inr (zt_in (j := 0) (k := 50) rfl rfl), by decide +kernel, by decide, fun h => absurd h (by decide)⟩
set_option maxRecDepth 100000 in
theorem zt_m_251 : zt_mOK (⟨"ColumnVaultModel$Table", "kind", "(I)I"⟩, prog_15_method_7_code, 2, some (.int), [], 17, 1, 0, 0, 0, 0) := ⟨(zt_in (j := 7) (k := 173) rfl rfl), rfl, (zt_in (j := 1) (k := 10) rfl rfl), (zt_in (j := 7) (k := 171) rfl rfl), Or.inr (zt_in (j := 7) (k := 172) rfl rfl), by decide +kernel, by decide, fun h => absurd h (by decide)⟩
set_option maxRecDepth 100000 in
theorem zt_m_252 : zt_mOK (⟨"java/lang/Integer", "intValue", "()I"⟩, prog_27_method_27_code, 1, some (.int), [], 2, 0, 0, 0, 0, 0) := ⟨(zt_in (j := 7) (k := 177) rfl rfl), rfl, (zt_in (j := 1) (k := 27) rfl rfl), (zt_in (j := 7) (k := 175) rfl rfl), Or.inr (zt_in (j := 7) (k := 176) rfl rfl), by decide +kernel, by decide, fun h => absurd h (by decide)⟩
set_option maxRecDepth 100000 in
theorem zt_m_253 : zt_mOK (⟨"ColumnVaultModel", "set", "(IIIJ)Z"⟩, prog_13_method_17_code, 8, some (.boolean), [], 18, 4, 0, 0, 0, 0) := ⟨(zt_in (j := 7) (k := 184) rfl rfl), rfl, (zt_in (j := 1) (k := 9) rfl rfl), (zt_in (j := 7) (k := 182) rfl rfl), Or.inr (zt_in (j := 7) (k := 183) rfl rfl), by decide +kernel, by decide, fun h => absurd h (by decide)⟩
set_option maxRecDepth 100000 in
theorem zt_m_254 : zt_mOK (⟨"ColumnVaultModel", "isRow", "(II)Z"⟩, prog_13_method_13_code, 3, some (.boolean), [], 18, 2, 0, 0, 0, 0) := ⟨(zt_in (j := 7) (k := 188) rfl rfl), rfl, (zt_in (j := 1) (k := 9) rfl rfl), (zt_in (j := 7) (k := 187) rfl rfl), Or.inr (zt_in (j := 0) (k := 51) rfl rfl), by decide +kernel, by decide, fun h => absurd h (by decide)⟩
set_option maxRecDepth 100000 in
theorem zt_m_255 : zt_mOK (⟨"ColumnVaultModel", "isValue", "(IJ)Z"⟩, prog_13_method_5_code, 3, some (.boolean), [], 18, 2, 0, 1, 99999, 0) := ⟨(zt_in (j := 7) (k := 192) rfl rfl), rfl, (zt_in (j := 1) (k := 9) rfl rfl), (zt_in (j := 7) (k := 191) rfl rfl), Or.inl rfl, by decide +kernel, by decide, fun h => absurd h (by decide)⟩
set_option maxRecDepth 100000 in
theorem zt_m_256 : zt_mOK (⟨"ColumnVaultModel", "isText", "(J)Z"⟩, prog_13_method_4_code, 5, some (.boolean), [], 18, 1, 0, 1, 99999, 0) := ⟨(zt_in (j := 7) (k := 195) rfl rfl), rfl, (zt_in (j := 1) (k := 9) rfl rfl), (zt_in (j := 7) (k := 194) rfl rfl), Or.inl rfl, by decide +kernel, by decide, fun h => absurd h (by decide)⟩
set_option maxRecDepth 100000 in
theorem zt_m_257 : zt_mOK (⟨"ColumnVaultModel$Table", "value", "(II)J"⟩, prog_15_method_5_code, 3, some (.long), [], 17, 2, 0, 0, 0, 0) := ⟨(zt_in (j := 7) (k := 203) rfl rfl), rfl, (zt_in (j := 1) (k := 10) rfl rfl), (zt_in (j := 7) (k := 201) rfl rfl), Or.inr (zt_in (j := 7) (k := 202) rfl rfl), by decide +kernel, by decide, fun h => absurd h (by decide)⟩
set_option maxRecDepth 100000 in
theorem zt_m_258 : zt_mOK (⟨"ColumnVaultModel", "remove", "(II)I"⟩, prog_13_method_18_code, 3, some (.int), [], 18, 2, 0, 0, 0, 0) := ⟨(zt_in (j := 7) (k := 207) rfl rfl), rfl, (zt_in (j := 1) (k := 9) rfl rfl), (zt_in (j := 7) (k := 205) rfl rfl), Or.inr (zt_in (j := 7) (k := 206) rfl rfl), by decide +kernel, by decide, fun h => absurd h (by decide)⟩
set_option maxRecDepth 100000 in
theorem zt_m_259 : zt_mOK (⟨"ColumnVaultModel$Table", "remove", "(I)V"⟩, prog_15_method_10_code, 8, none, [], 17, 1, 0, 0, 0, 0) := ⟨(zt_in (j := 7) (k := 211) rfl rfl), rfl, (zt_in (j := 1) (k := 10) rfl rfl), (zt_in (j := 7) (k := 209) rfl rfl), Or.inr (zt_in (j := 7) (k := 210) rfl rfl), by decide +kernel, by decide, fun h => absurd h (by decide)⟩
set_option maxRecDepth 100000 in
theorem zt_m_260 : zt_mOK (⟨"java/lang/Boolean", "booleanValue", "()Z"⟩, prog_19_method_4_code, 1, some (.boolean), [], 34, 0, 0, 0, 0, 0) := ⟨(zt_in (j := 7) (k := 217) rfl rfl), rfl, (zt_in (j := 1) (k := 29) rfl rfl), (zt_in (j := 7) (k := 215) rfl rfl), Or.inr (zt_in (j := 7) (k := 216) rfl rfl), by decide +kernel, by decide, fun h => absurd h (by decide)⟩
set_option maxRecDepth 100000 in
theorem zt_m_261 : zt_mOK (⟨"ColumnVaultModel$Table", "placeOf", "(I)I"⟩, prog_15_method_11_code, 3, some (.int), [], 17, 1, 0, 0, 0, 0) := ⟨(zt_in (j := 7) (k := 221) rfl rfl), rfl, (zt_in (j := 1) (k := 10) rfl rfl), (zt_in (j := 7) (k := 219) rfl rfl), Or.inr (zt_in (j := 7) (k := 220) rfl rfl), by decide +kernel, by decide, fun h => absurd h (by decide)⟩
set_option maxRecDepth 100000 in
theorem zt_m_262 : zt_mOK (⟨"java/util/ArrayList", "set", "(ILjava/lang/Object;)Ljava/lang/Object;"⟩, prog_45_method_23_code, 4, some (.object "java/lang/Object"), [], 4, 2, 0, 0, 99999, 0) := ⟨(zt_in (j := 7) (k := 230) rfl rfl), rfl, (zt_in (j := 1) (k := 13) rfl rfl), (zt_in (j := 7) (k := 228) rfl rfl), Or.inl rfl, by decide +kernel, by decide, fun h => absurd h (by decide)⟩
set_option maxRecDepth 100000 in
theorem zt_m_263 : zt_mOK (⟨"ColumnVaultModel", "get", "(III)J"⟩, prog_13_method_19_code, 4, some (.long), [], 18, 3, 0, 0, 0, 0) := ⟨(zt_in (j := 7) (k := 234) rfl rfl), rfl, (zt_in (j := 1) (k := 9) rfl rfl), (zt_in (j := 7) (k := 232) rfl rfl), Or.inr (zt_in (j := 7) (k := 233) rfl rfl), by decide +kernel, by decide, fun h => absurd h (by decide)⟩
set_option maxRecDepth 100000 in
theorem zt_m_264 : zt_mOK (⟨"ColumnVaultModel", "size", "(II)I"⟩, prog_13_method_21_code, 4, some (.int), [], 18, 2, 0, 0, 0, 0) := ⟨(zt_in (j := 7) (k := 238) rfl rfl), rfl, (zt_in (j := 1) (k := 9) rfl rfl), (zt_in (j := 7) (k := 236) rfl rfl), Or.inr (zt_in (j := 7) (k := 237) rfl rfl), by decide +kernel, by decide, fun h => absurd h (by decide)⟩
set_option maxRecDepth 100000 in
theorem zt_m_265 : zt_mOK (⟨"ColumnVaultModel$Table", "chosenRows", "()I"⟩, prog_15_method_12_code, 3, some (.int), [], 17, 0, 0, 0, 0, 0) := ⟨(zt_in (j := 8) (k := 3) rfl rfl), rfl, (zt_in (j := 1) (k := 10) rfl rfl), (zt_in (j := 8) (k := 1) rfl rfl), Or.inr (zt_in (j := 8) (k := 2) rfl rfl), by decide +kernel, by decide, fun h => absurd h (by decide)⟩
set_option maxRecDepth 100000 in
theorem zt_m_266 : zt_mOK (⟨"ColumnVaultModel$Table", "isChosen", "(I)Z"⟩, prog_15_method_8_code, 2, some (.boolean), [], 17, 1, 0, 0, 0, 0) := ⟨(zt_in (j := 8) (k := 8) rfl rfl), rfl, (zt_in (j := 1) (k := 10) rfl rfl), (zt_in (j := 8) (k := 6) rfl rfl), Or.inr (zt_in (j := 8) (k := 7) rfl rfl), by decide +kernel, by decide, fun h => absurd h (by decide)⟩
set_option maxRecDepth 100000 in
theorem zt_m_267 : zt_mOK (⟨"ColumnVaultModel", "missing", "(LColumnVaultModel$Table;)I"⟩, prog_13_method_20_code, 4, some (.int), [], 18, 1, 0, 1, 99999, 0) := ⟨(zt_in (j := 8) (k := 11) rfl rfl), rfl, (zt_in (j := 1) (k := 9) rfl rfl), (zt_in (j := 8) (k := 10) rfl rfl), Or.inl rfl, by decide +kernel, by decide, fun h => absurd h (by decide)⟩
set_option maxRecDepth 100000 in
theorem zt_m_268 : zt_mOK (⟨"ColumnVaultModel$Table", "isThere", "(II)Z"⟩, prog_15_method_6_code, 3, some (.boolean), [], 17, 2, 0, 0, 0, 0) := ⟨(zt_in (j := 8) (k := 15) rfl rfl), rfl, (zt_in (j := 1) (k := 10) rfl rfl), (zt_in (j := 8) (k := 13) rfl rfl), Or.inr (zt_in (j := 8) (k := 14) rfl rfl), by decide +kernel, by decide, fun h => absurd h (by decide)⟩
set_option maxRecDepth 100000 in
theorem zt_m_269 : zt_mOK (⟨"ColumnVaultModel", "kind", "(II)I"⟩, prog_13_method_22_code, 3, some (.int), [], 18, 2, 0, 0, 0, 0) := ⟨(zt_in (j := 8) (k := 20) rfl rfl), rfl, (zt_in (j := 1) (k := 9) rfl rfl), (zt_in (j := 8) (k := 18) rfl rfl), Or.inr (zt_in (j := 8) (k := 19) rfl rfl), by decide +kernel, by decide, fun h => absurd h (by decide)⟩
set_option maxRecDepth 100000 in
theorem zt_m_270 : zt_mOK (⟨"ColumnVaultModel", "version", "()I"⟩, prog_13_method_23_code, 1, some (.int), [], 18, 0, 0, 0, 0, 0) := ⟨(zt_in (j := 8) (k := 24) rfl rfl), rfl, (zt_in (j := 1) (k := 9) rfl rfl), (zt_in (j := 8) (k := 22) rfl rfl), Or.inr (zt_in (j := 8) (k := 23) rfl rfl), by decide +kernel, by decide, fun h => absurd h (by decide)⟩
set_option maxRecDepth 100000 in
theorem zt_m_271 : zt_mOK (⟨"ColumnVaultModel", "back", "(I)I"⟩, prog_13_method_24_code, 4, some (.int), [], 18, 1, 0, 0, 0, 0) := ⟨(zt_in (j := 8) (k := 28) rfl rfl), rfl, (zt_in (j := 1) (k := 9) rfl rfl), (zt_in (j := 8) (k := 26) rfl rfl), Or.inr (zt_in (j := 8) (k := 27) rfl rfl), by decide +kernel, by decide, fun h => absurd h (by decide)⟩
set_option maxRecDepth 100000 in
theorem zt_m_272 : zt_mOK (⟨"ColumnVaultModel", "sort", "(IIZZ)I"⟩, prog_13_method_25_code, 5, some (.int), [], 18, 4, 0, 0, 0, 0) := ⟨(zt_in (j := 8) (k := 32) rfl rfl), rfl, (zt_in (j := 1) (k := 9) rfl rfl), (zt_in (j := 8) (k := 30) rfl rfl), Or.inr (zt_in (j := 8) (k := 31) rfl rfl), by decide +kernel, by decide, fun h => absurd h (by decide)⟩
set_option maxRecDepth 100000 in
theorem zt_m_273 : zt_mOK (⟨"ColumnVaultModel$Table", "sort", "(IZZ)I"⟩, prog_15_method_14_code, 9, some (.int), [], 17, 3, 0, 0, 0, 0) := ⟨(zt_in (j := 8) (k := 36) rfl rfl), rfl, (zt_in (j := 1) (k := 10) rfl rfl), (zt_in (j := 8) (k := 34) rfl rfl), Or.inr (zt_in (j := 8) (k := 35) rfl rfl), by decide +kernel, by decide, fun h => absurd h (by decide)⟩
set_option maxRecDepth 100000 in
theorem zt_m_274 : zt_mOK (⟨"ColumnVaultModel$Table", "isAhead", "(IIIZZ)Z"⟩, prog_15_method_13_code, 7, some (.boolean), [], 17, 5, 0, 0, 0, 0) := ⟨(zt_in (j := 8) (k := 40) rfl rfl), rfl, (zt_in (j := 1) (k := 10) rfl rfl), (zt_in (j := 8) (k := 39) rfl rfl), Or.inr (zt_in (j := 0) (k := 52) rfl rfl), by decide +kernel, by decide, fun h => absurd h (by decide)⟩
set_option maxRecDepth 100000 in
theorem zt_m_275 : zt_mOK (⟨"ColumnVaultModel", "compared", "(IJJ)I"⟩, prog_13_method_7_code, 9, some (.int), [], 18, 3, 0, 1, 99999, 0) := ⟨(zt_in (j := 8) (k := 45) rfl rfl), rfl, (zt_in (j := 1) (k := 9) rfl rfl), (zt_in (j := 8) (k := 44) rfl rfl), Or.inl rfl, by decide +kernel, by decide, fun h => absurd h (by decide)⟩
set_option maxRecDepth 100000 in
theorem zt_m_276 : zt_mOK (⟨"ColumnVaultModel", "alphabetical", "(J)J"⟩, prog_13_method_6_code, 4, some (.long), [], 18, 1, 0, 1, 99999, 0) := ⟨(zt_in (j := 8) (k := 48) rfl rfl), rfl, (zt_in (j := 1) (k := 9) rfl rfl), (zt_in (j := 8) (k := 47) rfl rfl), Or.inl rfl, by decide +kernel, by decide, fun h => absurd h (by decide)⟩
set_option maxRecDepth 100000 in
theorem zt_m_277 : zt_mOK (⟨"ColumnVaultModel", "rowAt", "(II)I"⟩, prog_13_method_26_code, 3, some (.int), [], 18, 2, 0, 0, 0, 0) := ⟨(zt_in (j := 8) (k := 53) rfl rfl), rfl, (zt_in (j := 1) (k := 9) rfl rfl), (zt_in (j := 8) (k := 51) rfl rfl), Or.inr (zt_in (j := 8) (k := 52) rfl rfl), by decide +kernel, by decide, fun h => absurd h (by decide)⟩
set_option maxRecDepth 100000 in
theorem zt_m_278 : zt_mOK (⟨"ColumnVaultModel", "placeOf", "(II)I"⟩, prog_13_method_27_code, 3, some (.int), [], 18, 2, 0, 0, 0, 0) := ⟨(zt_in (j := 8) (k := 59) rfl rfl), rfl, (zt_in (j := 1) (k := 9) rfl rfl), (zt_in (j := 8) (k := 57) rfl rfl), Or.inr (zt_in (j := 8) (k := 58) rfl rfl), by decide +kernel, by decide, fun h => absurd h (by decide)⟩
set_option maxRecDepth 100000 in
theorem zt_m_279 : zt_mOK (⟨"ColumnVaultModel", "isChosen", "(II)Z"⟩, prog_13_method_28_code, 3, some (.boolean), [], 18, 2, 0, 0, 0, 0) := ⟨(zt_in (j := 8) (k := 64) rfl rfl), rfl, (zt_in (j := 1) (k := 9) rfl rfl), (zt_in (j := 8) (k := 62) rfl rfl), Or.inr (zt_in (j := 8) (k := 63) rfl rfl), by decide +kernel, by decide, fun h => absurd h (by decide)⟩
set_option maxRecDepth 100000 in
theorem zt_m_280 : zt_mOK (⟨"ColumnVaultModel", "choose", "(II)I"⟩, prog_13_method_29_code, 9, some (.int), [], 18, 2, 0, 0, 0, 0) := ⟨(zt_in (j := 8) (k := 69) rfl rfl), rfl, (zt_in (j := 1) (k := 9) rfl rfl), (zt_in (j := 8) (k := 67) rfl rfl), Or.inr (zt_in (j := 8) (k := 68) rfl rfl), by decide +kernel, by decide, fun h => absurd h (by decide)⟩
set_option maxRecDepth 100000 in
theorem zt_m_281 : zt_mOK (⟨"ColumnVaultModel", "filter", "(I)LColumnVaultModel$Node;"⟩, prog_13_method_45_code, 3, some (.object "ColumnVaultModel$Node"), [], 18, 1, 0, 0, 0, 0) := ⟨(zt_in (j := 8) (k := 73) rfl rfl), rfl, (zt_in (j := 1) (k := 9) rfl rfl), (zt_in (j := 8) (k := 72) rfl rfl), Or.inr (zt_in (j := 0) (k := 53) rfl rfl), by decide +kernel, by decide, fun h => absurd h (by decide)⟩
set_option maxRecDepth 100000 in
theorem zt_m_282 : zt_mOK (⟨"ColumnVaultModel", "filterPart", "(I)LColumnVaultModel$Node;"⟩, prog_13_method_36_code, 5, some (.object "ColumnVaultModel$Node"), [], 18, 1, 0, 0, 0, 0) := ⟨(zt_in (j := 8) (k := 77) rfl rfl), rfl, (zt_in (j := 1) (k := 9) rfl rfl), (zt_in (j := 8) (k := 76) rfl rfl), Or.inr (zt_in (j := 0) (k := 54) rfl rfl), by decide +kernel, by decide, fun h => absurd h (by decide)⟩
set_option maxRecDepth 100000 in
theorem zt_m_283 : zt_mOK (⟨"ColumnVaultModel$Node", "<init>", "(I)V"⟩, prog_14_method_1_code, 2, none, [], 16, 1, 0, 2, 99999, 0) := ⟨(zt_in (j := 8) (k := 82) rfl rfl), rfl, (zt_in (j := 1) (k := 33) rfl rfl), (zt_in (j := 8) (k := 81) rfl rfl), Or.inl rfl, by decide +kernel, by decide, fun _ => rfl⟩
set_option maxRecDepth 100000 in
theorem zt_m_284 : zt_mOK (⟨"ColumnVaultModel", "piece", "(I)LColumnVaultModel$Node;"⟩, prog_13_method_37_code, 3, some (.object "ColumnVaultModel$Node"), [], 18, 1, 0, 0, 0, 0) := ⟨(zt_in (j := 8) (k := 106) rfl rfl), rfl, (zt_in (j := 1) (k := 9) rfl rfl), (zt_in (j := 8) (k := 105) rfl rfl), Or.inr (zt_in (j := 0) (k := 55) rfl rfl), by decide +kernel, by decide, fun h => absurd h (by decide)⟩
set_option maxRecDepth 100000 in
theorem zt_m_285 : zt_mOK (⟨"ColumnVaultModel", "next", "()I"⟩, prog_13_method_35_code, 1, some (.int), [], 18, 0, 0, 0, 0, 0) := ⟨(zt_in (j := 8) (k := 110) rfl rfl), rfl, (zt_in (j := 1) (k := 9) rfl rfl), (zt_in (j := 8) (k := 109) rfl rfl), Or.inr (zt_in (j := 0) (k := 56) rfl rfl), by decide +kernel, by decide, fun h => absurd h (by decide)⟩
set_option maxRecDepth 100000 in
theorem zt_m_286 : zt_mOK (⟨"ColumnVaultModel", "signAt", "(I)I"⟩, prog_13_method_32_code, 2, some (.int), [], 18, 1, 0, 0, 0, 0) := ⟨(zt_in (j := 8) (k := 114) rfl rfl), rfl, (zt_in (j := 1) (k := 9) rfl rfl), (zt_in (j := 8) (k := 113) rfl rfl), Or.inr (zt_in (j := 0) (k := 57) rfl rfl), by decide +kernel, by decide, fun h => absurd h (by decide)⟩
set_option maxRecDepth 100000 in
theorem zt_m_287 : zt_mOK (⟨"ColumnVaultModel", "opposite", "(I)LColumnVaultModel$Node;"⟩, prog_13_method_38_code, 4, some (.object "ColumnVaultModel$Node"), [], 18, 1, 0, 0, 0, 0) := ⟨(zt_in (j := 8) (k := 118) rfl rfl), rfl, (zt_in (j := 1) (k := 9) rfl rfl), (zt_in (j := 8) (k := 117) rfl rfl), Or.inr (zt_in (j := 0) (k := 58) rfl rfl), by decide +kernel, by decide, fun h => absurd h (by decide)⟩
set_option maxRecDepth 100000 in
theorem zt_m_288 : zt_mOK (⟨"ColumnVaultModel", "fails", "(II)V"⟩, prog_13_method_31_code, 3, none, [], 18, 2, 0, 0, 0, 0) := ⟨(zt_in (j := 8) (k := 122) rfl rfl), rfl, (zt_in (j := 1) (k := 9) rfl rfl), (zt_in (j := 8) (k := 121) rfl rfl), Or.inr (zt_in (j := 0) (k := 59) rfl rfl), by decide +kernel, by decide, fun h => absurd h (by decide)⟩
set_option maxRecDepth 100000 in
theorem zt_m_289 : zt_mOK (⟨"ColumnVaultModel", "brackets", "()LColumnVaultModel$Node;"⟩, prog_13_method_39_code, 2, some (.object "ColumnVaultModel$Node"), [], 18, 0, 0, 0, 0, 0) := ⟨(zt_in (j := 8) (k := 126) rfl rfl), rfl, (zt_in (j := 1) (k := 9) rfl rfl), (zt_in (j := 8) (k := 125) rfl rfl), Or.inr (zt_in (j := 0) (k := 60) rfl rfl), by decide +kernel, by decide, fun h => absurd h (by decide)⟩
set_option maxRecDepth 100000 in
theorem zt_m_290 : zt_mOK (⟨"ColumnVaultModel", "test", "()LColumnVaultModel$Node;"⟩, prog_13_method_42_code, 4, some (.object "ColumnVaultModel$Node"), [], 18, 0, 0, 0, 0, 0) := ⟨(zt_in (j := 8) (k := 130) rfl rfl), rfl, (zt_in (j := 1) (k := 9) rfl rfl), (zt_in (j := 8) (k := 129) rfl rfl), Or.inr (zt_in (j := 0) (k := 61) rfl rfl), by decide +kernel, by decide, fun h => absurd h (by decide)⟩
set_option maxRecDepth 100000 in
theorem zt_m_291 : zt_mOK (⟨"ColumnVaultModel", "isDigit", "(I)Z"⟩, prog_13_method_33_code, 1, some (.boolean), [], 18, 1, 0, 1, 99999, 0) := ⟨(zt_in (j := 8) (k := 133) rfl rfl), rfl, (zt_in (j := 1) (k := 9) rfl rfl), (zt_in (j := 8) (k := 132) rfl rfl), Or.inl rfl, by decide +kernel, by decide, fun h => absurd h (by decide)⟩
set_option maxRecDepth 100000 in
theorem zt_m_292 : zt_mOK (⟨"ColumnVaultModel", "sortOfTest", "()I"⟩, prog_13_method_41_code, 2, some (.int), [], 18, 0, 0, 0, 0, 0) := ⟨(zt_in (j := 8) (k := 139) rfl rfl), rfl, (zt_in (j := 1) (k := 9) rfl rfl), (zt_in (j := 8) (k := 138) rfl rfl), Or.inr (zt_in (j := 0) (k := 62) rfl rfl), by decide +kernel, by decide, fun h => absurd h (by decide)⟩
set_option maxRecDepth 100000 in
theorem zt_m_293 : zt_mOK (⟨"ColumnVaultModel", "isWord", "(Ljava/lang/String;)Z"⟩, prog_13_method_40_code, 3, some (.boolean), [], 18, 1, 0, 0, 0, 0) := ⟨(zt_in (j := 8) (k := 144) rfl rfl), rfl, (zt_in (j := 1) (k := 9) rfl rfl), (zt_in (j := 8) (k := 143) rfl rfl), Or.inr (zt_in (j := 0) (k := 63) rfl rfl), by decide +kernel, by decide, fun h => absurd h (by decide)⟩
set_option maxRecDepth 100000 in
theorem zt_m_294 : zt_mOK (⟨"ColumnVaultModel", "isLetter", "(I)Z"⟩, prog_13_method_34_code, 1, some (.boolean), [], 18, 1, 0, 1, 99999, 0) := ⟨(zt_in (j := 8) (k := 149) rfl rfl), rfl, (zt_in (j := 1) (k := 9) rfl rfl), (zt_in (j := 8) (k := 148) rfl rfl), Or.inl rfl, by decide +kernel, by decide, fun h => absurd h (by decide)⟩
set_option maxRecDepth 100000 in
theorem zt_m_295 : zt_mOK (⟨"ColumnVaultModel", "value", "(LColumnVaultModel$Node;)V"⟩, prog_13_method_44_code, 8, none, [], 18, 1, 0, 0, 0, 0) := ⟨(zt_in (j := 8) (k := 155) rfl rfl), rfl, (zt_in (j := 1) (k := 9) rfl rfl), (zt_in (j := 8) (k := 154) rfl rfl), Or.inr (zt_in (j := 0) (k := 64) rfl rfl), by decide +kernel, by decide, fun h => absurd h (by decide)⟩
set_option maxRecDepth 100000 in
theorem zt_m_296 : zt_mOK (⟨"ColumnVaultModel", "isValueNext", "()Z"⟩, prog_13_method_43_code, 2, some (.boolean), [], 18, 0, 0, 0, 0, 0) := ⟨(zt_in (j := 8) (k := 159) rfl rfl), rfl, (zt_in (j := 1) (k := 9) rfl rfl), (zt_in (j := 8) (k := 158) rfl rfl), Or.inr (zt_in (j := 0) (k := 65) rfl rfl), by decide +kernel, by decide, fun h => absurd h (by decide)⟩
set_option maxRecDepth 100000 in
theorem zt_m_297 : zt_mOK (⟨"java/lang/Long", "valueOf", "(J)Ljava/lang/Long;"⟩, prog_30_method_24_code, 3, some (.object "java/lang/Long"), [], 3, 1, 0, 1, 99999, 0) := ⟨(zt_in (j := 8) (k := 165) rfl rfl), rfl, (zt_in (j := 1) (k := 30) rfl rfl), (zt_in (j := 8) (k := 164) rfl rfl), Or.inl rfl, by decide +kernel, by decide, fun h => absurd h (by decide)⟩
set_option maxRecDepth 100000 in
theorem zt_m_298 : zt_mOK (⟨"java/lang/Long", "<init>", "(J)V"⟩, prog_30_method_26_code, 3, none, [], 3, 1, 0, 2, 99999, 0) := ⟨(zt_in (j := 8) (k := 174) rfl rfl), rfl, (zt_in (j := 1) (k := 30) rfl rfl), (zt_in (j := 8) (k := 173) rfl rfl), Or.inl rfl, by decide +kernel, by decide, fun _ => rfl⟩
set_option maxRecDepth 100000 in
theorem zt_m_299 : zt_mOK (⟨"ColumnVaultModel$Node", "holds", "(LColumnVaultModel$Table;I)Z"⟩, prog_14_method_2_code, 6, some (.boolean), [], 16, 2, 0, 0, 0, 0) := ⟨(zt_in (j := 8) (k := 183) rfl rfl), rfl, (zt_in (j := 1) (k := 33) rfl rfl), (zt_in (j := 8) (k := 181) rfl rfl), Or.inr (zt_in (j := 8) (k := 182) rfl rfl), by decide +kernel, by decide, fun h => absurd h (by decide)⟩
set_option maxRecDepth 100000 in
theorem zt_m_300 : zt_mOK (⟨"ColumnVaultModel$Node", "holdsTest", "(LColumnVaultModel$Table;I)Z"⟩, prog_14_method_4_code, 5, some (.boolean), [], 16, 2, 0, 0, 0, 0) := ⟨(zt_in (j := 8) (k := 187) rfl rfl), rfl, (zt_in (j := 1) (k := 33) rfl rfl), (zt_in (j := 8) (k := 186) rfl rfl), Or.inr (zt_in (j := 0) (k := 66) rfl rfl), by decide +kernel, by decide, fun h => absurd h (by decide)⟩
set_option maxRecDepth 100000 in
theorem zt_m_301 : zt_mOK (⟨"ColumnVaultModel$Node", "than", "(LColumnVaultModel$Table;II)I"⟩, prog_14_method_3_code, 4, some (.int), [], 16, 3, 0, 0, 0, 0) := ⟨(zt_in (j := 8) (k := 192) rfl rfl), rfl, (zt_in (j := 1) (k := 33) rfl rfl), (zt_in (j := 8) (k := 191) rfl rfl), Or.inr (zt_in (j := 0) (k := 67) rfl rfl), by decide +kernel, by decide, fun h => absurd h (by decide)⟩
set_option maxRecDepth 100000 in
theorem zt_m_302 : zt_mOK (⟨"java/lang/Long", "longValue", "()J"⟩, prog_30_method_31_code, 1, some (.long), [], 3, 0, 0, 0, 0, 0) := ⟨(zt_in (j := 8) (k := 201) rfl rfl), rfl, (zt_in (j := 1) (k := 30) rfl rfl), (zt_in (j := 8) (k := 199) rfl rfl), Or.inr (zt_in (j := 8) (k := 200) rfl rfl), by decide +kernel, by decide, fun h => absurd h (by decide)⟩
set_option maxRecDepth 100000 in
theorem zt_m_303 : zt_mOK (⟨"ColumnVaultModel", "turnChoice", "(I)I"⟩, prog_13_method_30_code, 5, some (.int), [], 18, 1, 0, 0, 0, 0) := ⟨(zt_in (j := 8) (k := 215) rfl rfl), rfl, (zt_in (j := 1) (k := 9) rfl rfl), (zt_in (j := 8) (k := 213) rfl rfl), Or.inr (zt_in (j := 8) (k := 214) rfl rfl), by decide +kernel, by decide, fun h => absurd h (by decide)⟩
set_option maxRecDepth 100000 in
theorem zt_m_304 : zt_mOK (⟨"ColumnVaultModel", "count", "(I)I"⟩, prog_13_method_46_code, 3, some (.int), [], 18, 1, 0, 0, 0, 0) := ⟨(zt_in (j := 8) (k := 219) rfl rfl), rfl, (zt_in (j := 1) (k := 9) rfl rfl), (zt_in (j := 8) (k := 217) rfl rfl), Or.inr (zt_in (j := 8) (k := 218) rfl rfl), by decide +kernel, by decide, fun h => absurd h (by decide)⟩
set_option maxRecDepth 100000 in
theorem zt_m_305 : zt_mOK (⟨"ColumnVaultModel$Node", "count", "(LColumnVaultModel$Table;)I"⟩, prog_14_method_5_code, 4, some (.int), [], 16, 1, 0, 0, 0, 0) := ⟨(zt_in (j := 8) (k := 223) rfl rfl), rfl, (zt_in (j := 1) (k := 33) rfl rfl), (zt_in (j := 8) (k := 222) rfl rfl), Or.inr (zt_in (j := 0) (k := 68) rfl rfl), by decide +kernel, by decide, fun h => absurd h (by decide)⟩
set_option maxRecDepth 100000 in
theorem zt_m_306 : zt_mOK (⟨"ColumnVaultModel", "reads", "(IZ)I"⟩, prog_13_method_47_code, 6, some (.int), [], 18, 2, 0, 0, 0, 0) := ⟨(zt_in (j := 8) (k := 228) rfl rfl), rfl, (zt_in (j := 1) (k := 9) rfl rfl), (zt_in (j := 8) (k := 226) rfl rfl), Or.inr (zt_in (j := 8) (k := 227) rfl rfl), by decide +kernel, by decide, fun h => absurd h (by decide)⟩
set_option maxRecDepth 100000 in
theorem zt_m_307 : zt_mOK (⟨"ColumnVaultModel$Node", "reads", "(LColumnVaultModel$Table;[ZZ)I"⟩, prog_14_method_7_code, 10, some (.int), [], 16, 3, 0, 0, 0, 0) := ⟨(zt_in (j := 8) (k := 232) rfl rfl), rfl, (zt_in (j := 1) (k := 33) rfl rfl), (zt_in (j := 8) (k := 230) rfl rfl), Or.inr (zt_in (j := 8) (k := 231) rfl rfl), by decide +kernel, by decide, fun h => absurd h (by decide)⟩
set_option maxRecDepth 100000 in
theorem zt_m_308 : zt_mOK (⟨"ColumnVaultModel$Node", "next", "(LColumnVaultModel$Table;[ZZ)I"⟩, prog_14_method_6_code, 8, some (.int), [], 16, 3, 0, 0, 0, 0) := ⟨(zt_in (j := 8) (k := 236) rfl rfl), rfl, (zt_in (j := 1) (k := 33) rfl rfl), (zt_in (j := 8) (k := 235) rfl rfl), Or.inr (zt_in (j := 0) (k := 69) rfl rfl), by decide +kernel, by decide, fun h => absurd h (by decide)⟩
set_option maxRecDepth 100000 in
theorem zt_m_309 : zt_mOK (⟨"ColumnVaultModel", "errorKind", "(I)I"⟩, prog_13_method_48_code, 3, some (.int), [], 18, 1, 0, 0, 0, 0) := ⟨(zt_in (j := 9) (k := 3) rfl rfl), rfl, (zt_in (j := 1) (k := 9) rfl rfl), (zt_in (j := 9) (k := 1) rfl rfl), Or.inr (zt_in (j := 9) (k := 2) rfl rfl), by decide +kernel, by decide, fun h => absurd h (by decide)⟩
set_option maxRecDepth 100000 in
theorem zt_m_310 : zt_mOK (⟨"ColumnVaultModel", "errorPlace", "(I)I"⟩, prog_13_method_49_code, 3, some (.int), [], 18, 1, 0, 0, 0, 0) := ⟨(zt_in (j := 9) (k := 7) rfl rfl), rfl, (zt_in (j := 1) (k := 9) rfl rfl), (zt_in (j := 9) (k := 5) rfl rfl), Or.inr (zt_in (j := 9) (k := 6) rfl rfl), by decide +kernel, by decide, fun h => absurd h (by decide)⟩
set_option maxRecDepth 100000 in
theorem zt_m_311 : zt_mOK (⟨"ColumnVaultModel", "type", "(J)I"⟩, prog_13_method_50_code, 6, some (.int), [], 18, 1, 0, 0, 0, 0) := ⟨(zt_in (j := 9) (k := 11) rfl rfl), rfl, (zt_in (j := 1) (k := 9) rfl rfl), (zt_in (j := 9) (k := 9) rfl rfl), Or.inr (zt_in (j := 9) (k := 10) rfl rfl), by decide +kernel, by decide, fun h => absurd h (by decide)⟩
set_option maxRecDepth 100000 in
theorem zt_m_312 : zt_mOK (⟨"ColumnVaultModel", "clearText", "()I"⟩, prog_13_method_51_code, 2, some (.int), [], 18, 0, 0, 0, 0, 0) := ⟨(zt_in (j := 9) (k := 16) rfl rfl), rfl, (zt_in (j := 1) (k := 9) rfl rfl), (zt_in (j := 9) (k := 14) rfl rfl), Or.inr (zt_in (j := 9) (k := 15) rfl rfl), by decide +kernel, by decide, fun h => absurd h (by decide)⟩
set_option maxRecDepth 100000 in
theorem zt_m_313 : zt_mOK (⟨"ColumnVaultModel", "example", "(I)I"⟩, prog_13_method_52_code, 4, some (.int), [], 18, 1, 0, 0, 0, 0) := ⟨(zt_in (j := 9) (k := 20) rfl rfl), rfl, (zt_in (j := 1) (k := 9) rfl rfl), (zt_in (j := 9) (k := 18) rfl rfl), Or.inr (zt_in (j := 9) (k := 19) rfl rfl), by decide +kernel, by decide, fun h => absurd h (by decide)⟩
set_option maxRecDepth 100000 in
theorem zt_m_314 : zt_mOK (⟨"ColumnVaultModel", "join", "(IIIII)I"⟩, prog_13_method_56_code, 12, some (.int), [], 18, 5, 0, 0, 0, 0) := ⟨(zt_in (j := 9) (k := 27) rfl rfl), rfl, (zt_in (j := 1) (k := 9) rfl rfl), (zt_in (j := 9) (k := 25) rfl rfl), Or.inr (zt_in (j := 9) (k := 26) rfl rfl), by decide +kernel, by decide, fun h => absurd h (by decide)⟩
set_option maxRecDepth 100000 in
theorem zt_m_315 : zt_mOK (⟨"ColumnVaultModel", "areColumns", "(IIII)Z"⟩, prog_13_method_53_code, 5, some (.boolean), [], 18, 4, 0, 0, 0, 0) := ⟨(zt_in (j := 9) (k := 31) rfl rfl), rfl, (zt_in (j := 1) (k := 9) rfl rfl), (zt_in (j := 9) (k := 30) rfl rfl), Or.inr (zt_in (j := 0) (k := 70) rfl rfl), by decide +kernel, by decide, fun h => absurd h (by decide)⟩
set_option maxRecDepth 100000 in
theorem zt_m_316 : zt_mOK (⟨"ColumnVaultModel", "areOfOneKind", "(IIII)Z"⟩, prog_13_method_54_code, 5, some (.boolean), [], 18, 4, 0, 0, 0, 0) := ⟨(zt_in (j := 9) (k := 35) rfl rfl), rfl, (zt_in (j := 1) (k := 9) rfl rfl), (zt_in (j := 9) (k := 34) rfl rfl), Or.inr (zt_in (j := 0) (k := 71) rfl rfl), by decide +kernel, by decide, fun h => absurd h (by decide)⟩
set_option maxRecDepth 100000 in
theorem zt_m_317 : zt_mOK (⟨"java/util/ArrayList", "clear", "()V"⟩, prog_45_method_40_code, 4, none, [], 4, 0, 0, 0, 99999, 0) := ⟨(zt_in (j := 9) (k := 44) rfl rfl), rfl, (zt_in (j := 1) (k := 13) rfl rfl), (zt_in (j := 9) (k := 42) rfl rfl), Or.inl rfl, by decide +kernel, by decide, fun h => absurd h (by decide)⟩
set_option maxRecDepth 100000 in
theorem zt_m_318 : zt_mOK (⟨"ColumnVaultModel", "arePartners", "(LColumnVaultModel$Table;IILColumnVaultModel$Table;II)Z"⟩, prog_13_method_55_code, 7, some (.boolean), [], 18, 6, 0, 0, 0, 0) := ⟨(zt_in (j := 9) (k := 48) rfl rfl), rfl, (zt_in (j := 1) (k := 9) rfl rfl), (zt_in (j := 9) (k := 47) rfl rfl), Or.inr (zt_in (j := 0) (k := 72) rfl rfl), by decide +kernel, by decide, fun h => absurd h (by decide)⟩
set_option maxRecDepth 100000 in
theorem zt_m_319 : zt_mOK (⟨"ColumnVaultModel", "pairAt", "(IZ)I"⟩, prog_13_method_57_code, 3, some (.int), [], 18, 2, 0, 0, 0, 0) := ⟨(zt_in (j := 9) (k := 52) rfl rfl), rfl, (zt_in (j := 1) (k := 9) rfl rfl), (zt_in (j := 9) (k := 50) rfl rfl), Or.inr (zt_in (j := 9) (k := 51) rfl rfl), by decide +kernel, by decide, fun h => absurd h (by decide)⟩
set_option maxRecDepth 100000 in
theorem zt_m_320 : zt_mOK (⟨"ColumnVaultModel", "joinErrors", "(IIII)I"⟩, prog_13_method_58_code, 11, some (.int), [], 18, 4, 0, 0, 0, 0) := ⟨(zt_in (j := 9) (k := 57) rfl rfl), rfl, (zt_in (j := 1) (k := 9) rfl rfl), (zt_in (j := 9) (k := 55) rfl rfl), Or.inr (zt_in (j := 9) (k := 56) rfl rfl), by decide +kernel, by decide, fun h => absurd h (by decide)⟩
set_option maxRecDepth 100000 in
theorem zt_m_321 : zt_mOK (⟨"ColumnVaultModel", "group", "(II)I"⟩, prog_13_method_60_code, 3, some (.int), [], 18, 2, 0, 0, 0, 0) := ⟨(zt_in (j := 9) (k := 62) rfl rfl), rfl, (zt_in (j := 1) (k := 9) rfl rfl), (zt_in (j := 9) (k := 60) rfl rfl), Or.inr (zt_in (j := 9) (k := 61) rfl rfl), by decide +kernel, by decide, fun h => absurd h (by decide)⟩
set_option maxRecDepth 100000 in
theorem zt_m_322 : zt_mOK (⟨"ColumnVaultModel", "grouped", "(LColumnVaultModel$Table;I)Ljava/util/List;"⟩, prog_13_method_59_code, 7, some (.object "java/util/List"), [], 18, 2, 0, 1, 99999, 0) := ⟨(zt_in (j := 9) (k := 65) rfl rfl), rfl, (zt_in (j := 1) (k := 9) rfl rfl), (zt_in (j := 9) (k := 64) rfl rfl), Or.inl rfl, by decide +kernel, by decide, fun h => absurd h (by decide)⟩
set_option maxRecDepth 100000 in
theorem zt_m_323 : zt_mOK (⟨"ColumnVaultModel$Table", "areAlike", "(III)Z"⟩, prog_15_method_15_code, 4, some (.boolean), [], 17, 3, 0, 0, 0, 0) := ⟨(zt_in (j := 9) (k := 70) rfl rfl), rfl, (zt_in (j := 1) (k := 10) rfl rfl), (zt_in (j := 9) (k := 68) rfl rfl), Or.inr (zt_in (j := 9) (k := 69) rfl rfl), by decide +kernel, by decide, fun h => absurd h (by decide)⟩
set_option maxRecDepth 100000 in
theorem zt_m_324 : zt_mOK (⟨"java/util/ArrayList", "add", "(ILjava/lang/Object;)V"⟩, prog_45_method_26_code, 5, none, [], 4, 2, 0, 0, 99999, 0) := ⟨(zt_in (j := 9) (k := 80) rfl rfl), rfl, (zt_in (j := 1) (k := 13) rfl rfl), (zt_in (j := 9) (k := 78) rfl rfl), Or.inl rfl, by decide +kernel, by decide, fun h => absurd h (by decide)⟩
set_option maxRecDepth 100000 in
theorem zt_m_325 : zt_mOK (⟨"java/util/ArrayList", "rangeCheckForAdd", "(I)V"⟩, prog_45_method_45_code, 2, none, [], 4, 1, 0, 0, 0, 0) := ⟨(zt_in (j := 9) (k := 84) rfl rfl), rfl, (zt_in (j := 1) (k := 13) rfl rfl), (zt_in (j := 9) (k := 83) rfl rfl), Or.inr (zt_in (j := 0) (k := 73) rfl rfl), by decide +kernel, by decide, fun h => absurd h (by decide)⟩
set_option maxRecDepth 100000 in
theorem zt_m_326 : zt_mOK (⟨"java/util/ArrayList", "outOfBoundsMsg", "(I)Ljava/lang/String;"⟩, prog_45_method_46_code, 2, some (.object "java/lang/String"), [], 4, 1, 0, 0, 0, 0) := ⟨(zt_in (j := 9) (k := 89) rfl rfl), rfl, (zt_in (j := 1) (k := 13) rfl rfl), (zt_in (j := 9) (k := 88) rfl rfl), Or.inr (zt_in (j := 0) (k := 74) rfl rfl), by decide +kernel, by decide, fun h => absurd h (by decide)⟩
set_option maxRecDepth 100000 in
theorem zt_m_327 : zt_mOK (⟨"java/lang/StringBuilder", "<init>", "()V"⟩, prog_36_method_1_code, 1, none, [], 1, 0, 0, 2, 99999, 0) := ⟨(zt_in (j := 9) (k := 94) rfl rfl), rfl, (zt_in (j := 1) (k := 40) rfl rfl), (zt_in (j := 9) (k := 93) rfl rfl), Or.inl rfl, by decide +kernel, by decide, fun _ => rfl⟩
set_option maxRecDepth 100000 in
theorem zt_m_328 : zt_mOK (⟨"java/lang/AbstractStringBuilder", "<init>", "(I)V"⟩, prog_17_method_2_code, 2, none, [], 35, 1, 0, 2, 99999, 0) := ⟨(zt_in (j := 9) (k := 97) rfl rfl), rfl, (zt_in (j := 1) (k := 39) rfl rfl), (zt_in (j := 9) (k := 96) rfl rfl), Or.inl rfl, by decide +kernel, by decide, fun _ => rfl⟩
set_option maxRecDepth 100000 in
theorem zt_m_329 : zt_mOK (⟨"java/lang/StringUTF16", "newBytesFor", "(I)[B"⟩, prog_38_method_2_code, 1, some (.array (.byte)), [], 27, 1, 0, 1, 99999, 0) := ⟨(zt_in (j := 9) (k := 102) rfl rfl), rfl, (zt_in (j := 1) (k := 36) rfl rfl), (zt_in (j := 9) (k := 101) rfl rfl), Or.inl rfl, by decide +kernel, by decide, fun h => absurd h (by decide)⟩
set_option maxRecDepth 100000 in
theorem zt_m_330 : zt_mOK (⟨"java/lang/StringUTF16", "newBytesLength", "(I)I"⟩, prog_38_method_3_code, 1, some (.int), [], 27, 1, 0, 1, 99999, 0) := ⟨(zt_in (j := 9) (k := 105) rfl rfl), rfl, (zt_in (j := 1) (k := 36) rfl rfl), (zt_in (j := 9) (k := 104) rfl rfl), Or.inl rfl, by decide +kernel, by decide, fun h => absurd h (by decide)⟩
set_option maxRecDepth 100000 in
theorem zt_m_331 : zt_mOK (⟨"java/lang/StringBuilder", "append", "(Ljava/lang/String;)Ljava/lang/StringBuilder;"⟩, prog_36_method_7_code, 2, some (.object "java/lang/StringBuilder"), [], 1, 1, 0, 0, 0, 0) := ⟨(zt_in (j := 9) (k := 124) rfl rfl), rfl, (zt_in (j := 1) (k := 40) rfl rfl), (zt_in (j := 9) (k := 122) rfl rfl), Or.inr (zt_in (j := 9) (k := 123) rfl rfl), by decide +kernel, by decide, fun h => absurd h (by decide)⟩
set_option maxRecDepth 100000 in
theorem zt_m_332 : zt_mOK (⟨"java/lang/AbstractStringBuilder", "append", "(Ljava/lang/String;)Ljava/lang/AbstractStringBuilder;"⟩, prog_17_method_22_code, 3, some (.object "java/lang/AbstractStringBuilder"), [], 35, 1, 0, 0, 99999, 0) := ⟨(zt_in (j := 9) (k := 127) rfl rfl), rfl, (zt_in (j := 1) (k := 39) rfl rfl), (zt_in (j := 9) (k := 126) rfl rfl), Or.inl rfl, by decide +kernel, by decide, fun h => absurd h (by decide)⟩
set_option maxRecDepth 100000 in
theorem zt_m_333 : zt_mOK (⟨"java/lang/AbstractStringBuilder", "appendNull", "()Ljava/lang/AbstractStringBuilder;"⟩, prog_17_method_26_code, 3, some (.object "java/lang/AbstractStringBuilder"), [], 35, 0, 0, 0, 99999, 0) := ⟨(zt_in (j := 9) (k := 131) rfl rfl), rfl, (zt_in (j := 1) (k := 39) rfl rfl), (zt_in (j := 9) (k := 130) rfl rfl), Or.inl rfl, by decide +kernel, by decide, fun h => absurd h (by decide)⟩
set_option maxRecDepth 100000 in
theorem zt_m_334 : zt_mOK (⟨"java/lang/AbstractStringBuilder", "ensureCapacityInternal", "(I)V"⟩, prog_17_method_9_code, 3, none, [], 35, 1, 0, 0, 99999, 0) := ⟨(zt_in (j := 9) (k := 135) rfl rfl), rfl, (zt_in (j := 1) (k := 39) rfl rfl), (zt_in (j := 9) (k := 134) rfl rfl), Or.inl rfl, by decide +kernel, by decide, fun h => absurd h (by decide)⟩
set_option maxRecDepth 100000 in
theorem zt_m_335 : zt_mOK (⟨"java/lang/AbstractStringBuilder", "newCapacity", "(I)I"⟩, prog_17_method_10_code, 6, some (.int), [], 35, 1, 0, 0, 99999, 0) := ⟨(zt_in (j := 9) (k := 139) rfl rfl), rfl, (zt_in (j := 1) (k := 39) rfl rfl), (zt_in (j := 9) (k := 138) rfl rfl), Or.inl rfl, by decide +kernel, by decide, fun h => absurd h (by decide)⟩
set_option maxRecDepth 100000 in
theorem zt_m_336 : zt_mOK (⟨"java/util/Arrays", "copyOf", "([BI)[B"⟩, prog_46_method_121_code, 3, some (.array (.byte)), [], 32, 2, 0, 1, 99999, 0) := ⟨(zt_in (j := 9) (k := 144) rfl rfl), rfl, (zt_in (j := 1) (k := 18) rfl rfl), (zt_in (j := 9) (k := 143) rfl rfl), Or.inl rfl, by decide +kernel, by decide, fun h => absurd h (by decide)⟩
set_option maxRecDepth 100000 in
theorem zt_m_337 : zt_mOK (⟨"java/lang/AbstractStringBuilder", "isLatin1", "()Z"⟩, prog_17_method_68_code, 1, some (.boolean), [], 35, 0, 0, 0, 99999, 0) := ⟨(zt_in (j := 9) (k := 156) rfl rfl), rfl, (zt_in (j := 1) (k := 39) rfl rfl), (zt_in (j := 9) (k := 153) rfl rfl), Or.inl rfl, by decide +kernel, by decide, fun h => absurd h (by decide)⟩
set_option maxRecDepth 100000 in
theorem zt_m_338 : zt_mOK (⟨"java/lang/StringUTF16", "putCharsAt", "([BICCCC)I"⟩, prog_38_method_81_code, 7, some (.int), [], 27, 6, 0, 1, 99999, 0) := ⟨(zt_in (j := 9) (k := 159) rfl rfl), rfl, (zt_in (j := 1) (k := 36) rfl rfl), (zt_in (j := 9) (k := 158) rfl rfl), Or.inl rfl, by decide +kernel, by decide, fun h => absurd h (by decide)⟩
set_option maxRecDepth 100000 in
theorem zt_m_339 : zt_mOK (⟨"java/lang/StringUTF16", "checkBoundsBeginEnd", "(II[B)V"⟩, prog_38_method_93_code, 3, none, [], 27, 3, 0, 1, 99999, 0) := ⟨(zt_in (j := 9) (k := 162) rfl rfl), rfl, (zt_in (j := 1) (k := 36) rfl rfl), (zt_in (j := 9) (k := 161) rfl rfl), Or.inl rfl, by decide +kernel, by decide, fun h => absurd h (by decide)⟩
set_option maxRecDepth 100000 in
theorem zt_m_340 : zt_mOK (⟨"java/lang/String", "checkBoundsBeginEnd", "(III)V"⟩, prog_35_method_158_code, 3, none, [], 0, 3, 0, 1, 99999, 0) := ⟨(zt_in (j := 9) (k := 165) rfl rfl), rfl, (zt_in (j := 1) (k := 34) rfl rfl), (zt_in (j := 9) (k := 164) rfl rfl), Or.inl rfl, by decide +kernel, by decide, fun h => absurd h (by decide)⟩
set_option maxRecDepth 100000 in
theorem zt_m_341 : zt_mOK (⟨"jdk/internal/util/Preconditions", "checkFromToIndex", "(IIILjava/util/function/BiFunction;)I"⟩, prog_54_method_12_code, 4, some (.int), [], 26, 4, 0, 1, 99999, 0) := ⟨(zt_in (j := 9) (k := 168) rfl rfl), rfl, (zt_in (j := 1) (k := 15) rfl rfl), (zt_in (j := 9) (k := 167) rfl rfl), Or.inl rfl, by decide +kernel, by decide, fun h => absurd h (by decide)⟩
set_option maxRecDepth 100000 in
theorem zt_m_342 : zt_mOK (⟨"java/lang/StringUTF16", "putChar", "([BII)V"⟩, prog_38_method_4_code, 3, none, [], 27, 3, 0, 1, 99999, 0) := ⟨(zt_in (j := 9) (k := 171) rfl rfl), rfl, (zt_in (j := 1) (k := 36) rfl rfl), (zt_in (j := 9) (k := 170) rfl rfl), Or.inl rfl, by decide +kernel, by decide, fun h => absurd h (by decide)⟩
set_option maxRecDepth 100000 in
theorem zt_m_343 : zt_mOK (⟨"java/lang/AbstractStringBuilder", "putStringAt", "(ILjava/lang/String;)V"⟩, prog_17_method_73_code, 3, none, [], 35, 2, 0, 0, 99999, 0) := ⟨(zt_in (j := 9) (k := 176) rfl rfl), rfl, (zt_in (j := 1) (k := 39) rfl rfl), (zt_in (j := 9) (k := 175) rfl rfl), Or.inl rfl, by decide +kernel, by decide, fun h => absurd h (by decide)⟩
set_option maxRecDepth 100000 in
theorem zt_m_344 : zt_mOK (⟨"java/lang/AbstractStringBuilder", "inflateIfNeededFor", "(Ljava/lang/String;)V"⟩, prog_17_method_71_code, 2, none, [], 35, 1, 0, 0, 99999, 0) := ⟨(zt_in (j := 9) (k := 180) rfl rfl), rfl, (zt_in (j := 1) (k := 39) rfl rfl), (zt_in (j := 9) (k := 179) rfl rfl), Or.inl rfl, by decide +kernel, by decide, fun h => absurd h (by decide)⟩
set_option maxRecDepth 100000 in
theorem zt_m_345 : zt_mOK (⟨"java/lang/AbstractStringBuilder", "inflate", "()V"⟩, prog_17_method_11_code, 2, none, [], 35, 0, 0, 0, 99999, 0) := ⟨(zt_in (j := 9) (k := 185) rfl rfl), rfl, (zt_in (j := 1) (k := 39) rfl rfl), (zt_in (j := 9) (k := 184) rfl rfl), Or.inl rfl, by decide +kernel, by decide, fun h => absurd h (by decide)⟩
set_option maxRecDepth 100000 in
theorem zt_m_346 : zt_mOK (⟨"java/lang/StringLatin1", "inflate", "([BI[BII)V"⟩, prog_37_method_50_code, 5, none, [], 25, 5, 0, 1, 99999, 0) := ⟨(zt_in (j := 9) (k := 188) rfl rfl), rfl, (zt_in (j := 1) (k := 35) rfl rfl), (zt_in (j := 9) (k := 187) rfl rfl), Or.inl rfl, by decide +kernel, by decide, fun h => absurd h (by decide)⟩
set_option maxRecDepth 100000 in
theorem zt_m_347 : zt_mOK (⟨"java/lang/StringUTF16", "inflate", "([BI[BII)V"⟩, prog_38_method_86_code, 6, none, [], 27, 5, 0, 1, 99999, 0) := ⟨(zt_in (j := 9) (k := 191) rfl rfl), rfl, (zt_in (j := 1) (k := 36) rfl rfl), (zt_in (j := 9) (k := 190) rfl rfl), Or.inl rfl, by decide +kernel, by decide, fun h => absurd h (by decide)⟩
set_option maxRecDepth 100000 in
theorem zt_m_348 : zt_mOK (⟨"java/lang/StringUTF16", "checkBoundsOffCount", "(II[B)V"⟩, prog_38_method_94_code, 3, none, [], 27, 3, 0, 1, 99999, 0) := ⟨(zt_in (j := 9) (k := 194) rfl rfl), rfl, (zt_in (j := 1) (k := 36) rfl rfl), (zt_in (j := 9) (k := 193) rfl rfl), Or.inl rfl, by decide +kernel, by decide, fun h => absurd h (by decide)⟩
set_option maxRecDepth 100000 in
theorem zt_m_349 : zt_mOK (⟨"java/lang/String", "checkBoundsOffCount", "(III)I"⟩, prog_35_method_157_code, 3, some (.int), [], 0, 3, 0, 1, 99999, 0) := ⟨(zt_in (j := 9) (k := 197) rfl rfl), rfl, (zt_in (j := 1) (k := 34) rfl rfl), (zt_in (j := 9) (k := 196) rfl rfl), Or.inl rfl, by decide +kernel, by decide, fun h => absurd h (by decide)⟩
set_option maxRecDepth 100000 in
theorem zt_m_350 : zt_mOK (⟨"jdk/internal/util/Preconditions", "checkFromIndexSize", "(IIILjava/util/function/BiFunction;)I"⟩, prog_54_method_13_code, 4, some (.int), [], 26, 4, 0, 1, 99999, 0) := ⟨(zt_in (j := 9) (k := 200) rfl rfl), rfl, (zt_in (j := 1) (k := 15) rfl rfl), (zt_in (j := 9) (k := 199) rfl rfl), Or.inl rfl, by decide +kernel, by decide, fun h => absurd h (by decide)⟩
set_option maxRecDepth 100000 in
theorem zt_m_351 : zt_mOK (⟨"java/lang/String", "getBytes", "([BIB)V"⟩, prog_35_method_147_code, 4, none, [], 0, 3, 0, 0, 0, 0) := ⟨(zt_in (j := 9) (k := 204) rfl rfl), rfl, (zt_in (j := 1) (k := 34) rfl rfl), (zt_in (j := 9) (k := 202) rfl rfl), Or.inr (zt_in (j := 9) (k := 203) rfl rfl), by decide +kernel, by decide, fun h => absurd h (by decide)⟩
set_option maxRecDepth 100000 in
theorem zt_m_352 : zt_mOK (⟨"java/lang/StringBuilder", "append", "(I)Ljava/lang/StringBuilder;"⟩, prog_36_method_15_code, 2, some (.object "java/lang/StringBuilder"), [], 1, 1, 0, 0, 0, 0) := ⟨(zt_in (j := 9) (k := 210) rfl rfl), rfl, (zt_in (j := 1) (k := 40) rfl rfl), (zt_in (j := 9) (k := 208) rfl rfl), Or.inr (zt_in (j := 9) (k := 209) rfl rfl), by decide +kernel, by decide, fun h => absurd h (by decide)⟩
set_option maxRecDepth 100000 in
theorem zt_m_353 : zt_mOK (⟨"java/lang/AbstractStringBuilder", "append", "(I)Ljava/lang/AbstractStringBuilder;"⟩, prog_17_method_32_code, 4, some (.object "java/lang/AbstractStringBuilder"), [], 35, 1, 0, 0, 99999, 0) := ⟨(zt_in (j := 9) (k := 213) rfl rfl), rfl, (zt_in (j := 1) (k := 39) rfl rfl), (zt_in (j := 9) (k := 212) rfl rfl), Or.inl rfl, by decide +kernel, by decide, fun h => absurd h (by decide)⟩
set_option maxRecDepth 100000 in
theorem zt_m_354 : zt_mOK (⟨"java/lang/Integer", "stringSize", "(I)I"⟩, prog_27_method_13_code, 4, some (.int), [], 2, 1, 0, 1, 99999, 0) := ⟨(zt_in (j := 9) (k := 216) rfl rfl), rfl, (zt_in (j := 1) (k := 27) rfl rfl), (zt_in (j := 9) (k := 215) rfl rfl), Or.inl rfl, by decide +kernel, by decide, fun h => absurd h (by decide)⟩
set_option maxRecDepth 100000 in
theorem zt_m_355 : zt_mOK (⟨"java/lang/Integer", "getChars", "(II[B)I"⟩, prog_27_method_12_code, 7, some (.int), [], 2, 3, 0, 1, 99999, 0) := ⟨(zt_in (j := 9) (k := 219) rfl rfl), rfl, (zt_in (j := 1) (k := 27) rfl rfl), (zt_in (j := 9) (k := 218) rfl rfl), Or.inl rfl, by decide +kernel, by decide, fun h => absurd h (by decide)⟩
set_option maxRecDepth 100000 in
theorem zt_m_356 : zt_mOK (⟨"java/lang/StringUTF16", "getChars", "(III[B)I"⟩, prog_38_method_77_code, 5, some (.int), [], 27, 4, 0, 1, 99999, 0) := ⟨(zt_in (j := 9) (k := 226) rfl rfl), rfl, (zt_in (j := 1) (k := 36) rfl rfl), (zt_in (j := 9) (k := 225) rfl rfl), Or.inl rfl, by decide +kernel, by decide, fun h => absurd h (by decide)⟩
set_option maxRecDepth 100000 in
theorem zt_m_357 : zt_mOK (⟨"java/lang/StringUTF16", "getChars", "(II[B)I"⟩, prog_38_method_89_code, 7, some (.int), [], 27, 3, 0, 1, 99999, 0) := ⟨(zt_in (j := 9) (k := 229) rfl rfl), rfl, (zt_in (j := 1) (k := 36) rfl rfl), (zt_in (j := 9) (k := 228) rfl rfl), Or.inl rfl, by decide +kernel, by decide, fun h => absurd h (by decide)⟩
set_option maxRecDepth 100000 in
theorem zt_m_358 : zt_mOK (⟨"java/lang/StringBuilder", "toString", "()Ljava/lang/String;"⟩, prog_36_method_42_code, 1, some (.object "java/lang/String"), [], 1, 0, 0, 0, 0, 0) := ⟨(zt_in (j := 9) (k := 236) rfl rfl), rfl, (zt_in (j := 1) (k := 40) rfl rfl), (zt_in (j := 9) (k := 234) rfl rfl), Or.inr (zt_in (j := 9) (k := 235) rfl rfl), by decide +kernel, by decide, fun h => absurd h (by decide)⟩
set_option maxRecDepth 100000 in
theorem zt_m_359 : zt_mOK (⟨"java/lang/String", "<init>", "(Ljava/lang/StringBuilder;)V"⟩, prog_35_method_53_code, 2, none, [], 0, 1, 0, 2, 99999, 0) := ⟨(zt_in (j := 10) (k := 1) rfl rfl), rfl, (zt_in (j := 1) (k := 34) rfl rfl), (zt_in (j := 10) (k := 0) rfl rfl), Or.inl rfl, by decide +kernel, by decide, fun _ => rfl⟩
set_option maxRecDepth 100000 in
theorem zt_m_360 : zt_mOK (⟨"java/lang/String", "<init>", "(Ljava/lang/AbstractStringBuilder;Ljava/lang/Void;)V"⟩, prog_35_method_150_code, 5, none, [], 0, 2, 0, 2, 99999, 0) := ⟨(zt_in (j := 10) (k := 4) rfl rfl), rfl, (zt_in (j := 1) (k := 34) rfl rfl), (zt_in (j := 10) (k := 3) rfl rfl), Or.inl rfl, by decide +kernel, by decide, fun _ => rfl⟩
set_option maxRecDepth 100000 in
theorem zt_m_361 : zt_mOK (⟨"java/lang/AbstractStringBuilder", "getValue", "()[B"⟩, prog_17_method_64_code, 1, some (.array (.byte)), [], 35, 0, 0, 0, 99999, 0) := ⟨(zt_in (j := 10) (k := 10) rfl rfl), rfl, (zt_in (j := 1) (k := 39) rfl rfl), (zt_in (j := 10) (k := 7) rfl rfl), Or.inl rfl, by decide +kernel, by decide, fun h => absurd h (by decide)⟩
set_option maxRecDepth 100000 in
theorem zt_m_362 : zt_mOK (⟨"java/lang/StringBuilder", "length", "()I"⟩, prog_36_method_93_code, 1, some (.int), [], 1, 0, 0, 0, 99999, 0) := ⟨(zt_in (j := 10) (k := 16) rfl rfl), rfl, (zt_in (j := 1) (k := 40) rfl rfl), (zt_in (j := 10) (k := 15) rfl rfl), Or.inl rfl, by decide +kernel, by decide, fun h => absurd h (by decide)⟩
set_option maxRecDepth 100000 in
theorem zt_m_363 : zt_mOK (⟨"java/lang/AbstractStringBuilder", "length", "()I"⟩, prog_17_method_6_code, 1, some (.int), [], 35, 0, 0, 0, 99999, 0) := ⟨(zt_in (j := 10) (k := 18) rfl rfl), rfl, (zt_in (j := 1) (k := 39) rfl rfl), (zt_in (j := 10) (k := 12) rfl rfl), Or.inl rfl, by decide +kernel, by decide, fun h => absurd h (by decide)⟩
set_option maxRecDepth 100000 in
theorem zt_m_364 : zt_mOK (⟨"java/util/Arrays", "copyOfRange", "([BII)[B"⟩, prog_46_method_132_code, 3, some (.array (.byte)), [], 32, 3, 0, 1, 99999, 0) := ⟨(zt_in (j := 10) (k := 22) rfl rfl), rfl, (zt_in (j := 1) (k := 18) rfl rfl), (zt_in (j := 10) (k := 21) rfl rfl), Or.inl rfl, by decide +kernel, by decide, fun h => absurd h (by decide)⟩
set_option maxRecDepth 100000 in
theorem zt_m_365 : zt_mOK (⟨"java/util/Arrays", "copyOfRangeByte", "([BII)[B"⟩, prog_46_method_133_code, 5, some (.array (.byte)), [], 32, 3, 0, 1, 99999, 0) := ⟨(zt_in (j := 10) (k := 25) rfl rfl), rfl, (zt_in (j := 1) (k := 18) rfl rfl), (zt_in (j := 10) (k := 24) rfl rfl), Or.inl rfl, by decide +kernel, by decide, fun h => absurd h (by decide)⟩
set_option maxRecDepth 100000 in
theorem zt_m_366 : zt_mOK (⟨"java/util/Arrays", "checkLength", "(II)V"⟩, prog_46_method_131_code, 2, none, [], 32, 2, 0, 1, 99999, 0) := ⟨(zt_in (j := 10) (k := 28) rfl rfl), rfl, (zt_in (j := 1) (k := 18) rfl rfl), (zt_in (j := 10) (k := 27) rfl rfl), Or.inl rfl, by decide +kernel, by decide, fun h => absurd h (by decide)⟩
set_option maxRecDepth 100000 in
theorem zt_m_367 : zt_mOK (⟨"java/lang/StringUTF16", "compress", "([BII)[B"⟩, prog_38_method_17_code, 6, some (.array (.byte)), [], 27, 3, 0, 1, 99999, 0) := ⟨(zt_in (j := 10) (k := 39) rfl rfl), rfl, (zt_in (j := 1) (k := 36) rfl rfl), (zt_in (j := 10) (k := 38) rfl rfl), Or.inl rfl, by decide +kernel, by decide, fun h => absurd h (by decide)⟩
set_option maxRecDepth 100000 in
theorem zt_m_368 : zt_mOK (⟨"java/lang/StringUTF16", "compress", "([BI[BII)I"⟩, prog_38_method_22_code, 7, some (.int), [], 27, 5, 0, 1, 99999, 0) := ⟨(zt_in (j := 10) (k := 42) rfl rfl), rfl, (zt_in (j := 1) (k := 36) rfl rfl), (zt_in (j := 10) (k := 41) rfl rfl), Or.inl rfl, by decide +kernel, by decide, fun h => absurd h (by decide)⟩
set_option maxRecDepth 100000 in
theorem zt_m_369 : zt_mOK (⟨"java/lang/StringUTF16", "coderFromArrayLen", "([BI)B"⟩, prog_38_method_15_code, 2, some (.byte), [], 27, 2, 0, 1, 99999, 0) := ⟨(zt_in (j := 10) (k := 46) rfl rfl), rfl, (zt_in (j := 1) (k := 36) rfl rfl), (zt_in (j := 10) (k := 45) rfl rfl), Or.inl rfl, by decide +kernel, by decide, fun h => absurd h (by decide)⟩
set_option maxRecDepth 100000 in
theorem zt_m_370 : zt_mOK (⟨"ColumnVaultModel", "groupAt", "(II)J"⟩, prog_13_method_61_code, 4, some (.long), [], 18, 2, 0, 0, 0, 0) := ⟨(zt_in (j := 10) (k := 62) rfl rfl), rfl, (zt_in (j := 1) (k := 9) rfl rfl), (zt_in (j := 10) (k := 60) rfl rfl), Or.inr (zt_in (j := 10) (k := 61) rfl rfl), by decide +kernel, by decide, fun h => absurd h (by decide)⟩
set_option maxRecDepth 100000 in
theorem zt_m_371 : zt_mOK (⟨"ColumnVaultModel", "total", "(III)J"⟩, prog_13_method_67_code, 6, some (.long), [], 18, 3, 0, 0, 0, 0) := ⟨(zt_in (j := 10) (k := 66) rfl rfl), rfl, (zt_in (j := 1) (k := 9) rfl rfl), (zt_in (j := 10) (k := 64) rfl rfl), Or.inr (zt_in (j := 10) (k := 65) rfl rfl), by decide +kernel, by decide, fun h => absurd h (by decide)⟩
set_option maxRecDepth 100000 in
theorem zt_m_372 : zt_mOK (⟨"ColumnVaultModel", "chosenOf", "(LColumnVaultModel$Table;)Ljava/util/List;"⟩, prog_13_method_66_code, 4, some (.object "java/util/List"), [], 18, 1, 0, 1, 99999, 0) := ⟨(zt_in (j := 10) (k := 69) rfl rfl), rfl, (zt_in (j := 1) (k := 9) rfl rfl), (zt_in (j := 10) (k := 68) rfl rfl), Or.inl rfl, by decide +kernel, by decide, fun h => absurd h (by decide)⟩
set_option maxRecDepth 100000 in
theorem zt_m_373 : zt_mOK (⟨"ColumnVaultModel", "valuesOf", "(LColumnVaultModel$Table;ILjava/util/List;)Ljava/util/List;"⟩, prog_13_method_62_code, 7, some (.object "java/util/List"), [], 18, 3, 0, 1, 99999, 0) := ⟨(zt_in (j := 10) (k := 72) rfl rfl), rfl, (zt_in (j := 1) (k := 9) rfl rfl), (zt_in (j := 10) (k := 71) rfl rfl), Or.inl rfl, by decide +kernel, by decide, fun h => absurd h (by decide)⟩
set_option maxRecDepth 100000 in
theorem zt_m_374 : zt_mOK (⟨"ColumnVaultModel", "canTell", "(LColumnVaultModel$Table;II)Z"⟩, prog_13_method_64_code, 3, some (.boolean), [], 18, 3, 0, 1, 99999, 0) := ⟨(zt_in (j := 10) (k := 77) rfl rfl), rfl, (zt_in (j := 1) (k := 9) rfl rfl), (zt_in (j := 10) (k := 76) rfl rfl), Or.inl rfl, by decide +kernel, by decide, fun h => absurd h (by decide)⟩
set_option maxRecDepth 100000 in
theorem zt_m_375 : zt_mOK (⟨"ColumnVaultModel", "needsOne", "(I)Z"⟩, prog_13_method_65_code, 1, some (.boolean), [], 18, 1, 0, 1, 99999, 0) := ⟨(zt_in (j := 10) (k := 81) rfl rfl), rfl, (zt_in (j := 1) (k := 9) rfl rfl), (zt_in (j := 10) (k := 80) rfl rfl), Or.inl rfl, by decide +kernel, by decide, fun h => absurd h (by decide)⟩
set_option maxRecDepth 100000 in
theorem zt_m_376 : zt_mOK (⟨"java/util/ArrayList", "isEmpty", "()Z"⟩, prog_45_method_9_code, 1, some (.boolean), [], 4, 0, 0, 0, 99999, 0) := ⟨(zt_in (j := 10) (k := 91) rfl rfl), rfl, (zt_in (j := 1) (k := 13) rfl rfl), (zt_in (j := 10) (k := 89) rfl rfl), Or.inl rfl, by decide +kernel, by decide, fun h => absurd h (by decide)⟩
set_option maxRecDepth 100000 in
theorem zt_m_377 : zt_mOK (⟨"ColumnVaultModel", "told", "(Ljava/util/List;I)J"⟩, prog_13_method_63_code, 8, some (.long), [], 18, 2, 0, 1, 99999, 0) := ⟨(zt_in (j := 10) (k := 94) rfl rfl), rfl, (zt_in (j := 1) (k := 9) rfl rfl), (zt_in (j := 10) (k := 93) rfl rfl), Or.inl rfl, by decide +kernel, by decide, fun h => absurd h (by decide)⟩
set_option maxRecDepth 100000 in
theorem zt_m_378 : zt_mOK (⟨"ColumnVaultModel", "groupTotal", "(III)J"⟩, prog_13_method_68_code, 6, some (.long), [], 18, 3, 0, 0, 0, 0) := ⟨(zt_in (j := 10) (k := 98) rfl rfl), rfl, (zt_in (j := 1) (k := 9) rfl rfl), (zt_in (j := 10) (k := 96) rfl rfl), Or.inr (zt_in (j := 10) (k := 97) rfl rfl), by decide +kernel, by decide, fun h => absurd h (by decide)⟩
set_option maxRecDepth 100000 in
theorem zt_m_379 : zt_mOK (⟨"ColumnVaultModel", "running", "(III)J"⟩, prog_13_method_69_code, 9, some (.long), [], 18, 3, 0, 0, 0, 0) := ⟨(zt_in (j := 10) (k := 102) rfl rfl), rfl, (zt_in (j := 1) (k := 9) rfl rfl), (zt_in (j := 10) (k := 100) rfl rfl), Or.inr (zt_in (j := 10) (k := 101) rfl rfl), by decide +kernel, by decide, fun h => absurd h (by decide)⟩
set_option maxRecDepth 100000 in
theorem zt_m_380 : zt_mOK (⟨"ColumnVaultModel", "rank", "(IIII)I"⟩, prog_13_method_70_code, 10, some (.int), [], 18, 4, 0, 0, 0, 0) := ⟨(zt_in (j := 10) (k := 106) rfl rfl), rfl, (zt_in (j := 1) (k := 9) rfl rfl), (zt_in (j := 10) (k := 104) rfl rfl), Or.inr (zt_in (j := 10) (k := 105) rfl rfl), by decide +kernel, by decide, fun h => absurd h (by decide)⟩
set_option maxRecDepth 100000 in
theorem zt_m_381 : zt_mOK (⟨"ColumnVaultModel", "previous", "(III)I"⟩, prog_13_method_71_code, 6, some (.int), [], 18, 3, 0, 0, 0, 0) := ⟨(zt_in (j := 10) (k := 110) rfl rfl), rfl, (zt_in (j := 1) (k := 9) rfl rfl), (zt_in (j := 10) (k := 108) rfl rfl), Or.inr (zt_in (j := 10) (k := 109) rfl rfl), by decide +kernel, by decide, fun h => absurd h (by decide)⟩
set_option maxRecDepth 100000 in
theorem zt_m_382 : zt_mOK (⟨"ColumnVaultModel", "between", "(IIJJ)I"⟩, prog_13_method_73_code, 9, some (.int), [], 18, 4, 0, 0, 0, 0) := ⟨(zt_in (j := 10) (k := 114) rfl rfl), rfl, (zt_in (j := 1) (k := 9) rfl rfl), (zt_in (j := 10) (k := 112) rfl rfl), Or.inr (zt_in (j := 10) (k := 113) rfl rfl), by decide +kernel, by decide, fun h => absurd h (by decide)⟩
set_option maxRecDepth 100000 in
theorem zt_m_383 : zt_mOK (⟨"ColumnVaultModel", "within", "(LColumnVaultModel$Table;IJJ)I"⟩, prog_13_method_72_code, 9, some (.int), [], 18, 4, 0, 1, 99999, 0) := ⟨(zt_in (j := 10) (k := 117) rfl rfl), rfl, (zt_in (j := 1) (k := 9) rfl rfl), (zt_in (j := 10) (k := 116) rfl rfl), Or.inl rfl, by decide +kernel, by decide, fun h => absurd h (by decide)⟩
set_option maxRecDepth 100000 in
theorem zt_m_384 : zt_mOK (⟨"ColumnVaultModel", "nearest", "(IIJZ)J"⟩, prog_13_method_74_code, 15, some (.long), [], 18, 4, 0, 0, 0, 0) := ⟨(zt_in (j := 10) (k := 121) rfl rfl), rfl, (zt_in (j := 1) (k := 9) rfl rfl), (zt_in (j := 10) (k := 119) rfl rfl), Or.inr (zt_in (j := 10) (k := 120) rfl rfl), by decide +kernel, by decide, fun h => absurd h (by decide)⟩
set_option maxRecDepth 100000 in
theorem zt_m_385 : zt_mOK (⟨"ColumnVaultModel", "alike", "(III)I"⟩, prog_13_method_79_code, 13, some (.int), [], 18, 3, 0, 0, 0, 0) := ⟨(zt_in (j := 10) (k := 125) rfl rfl), rfl, (zt_in (j := 1) (k := 9) rfl rfl), (zt_in (j := 10) (k := 123) rfl rfl), Or.inr (zt_in (j := 10) (k := 124) rfl rfl), by decide +kernel, by decide, fun h => absurd h (by decide)⟩
set_option maxRecDepth 100000 in
theorem zt_m_386 : zt_mOK (⟨"ColumnVaultModel", "areOfKinds", "(LColumnVaultModel$Table;LColumnVaultModel$Table;)Z"⟩, prog_13_method_78_code, 4, some (.boolean), [], 18, 2, 0, 1, 99999, 0) := ⟨(zt_in (j := 10) (k := 128) rfl rfl), rfl, (zt_in (j := 1) (k := 9) rfl rfl), (zt_in (j := 10) (k := 127) rfl rfl), Or.inl rfl, by decide +kernel, by decide, fun h => absurd h (by decide)⟩
set_option maxRecDepth 100000 in
theorem zt_m_387 : zt_mOK (⟨"ColumnVaultModel", "chosenRows", "(LColumnVaultModel$Table;Z)Ljava/util/List;"⟩, prog_13_method_77_code, 5, some (.object "java/util/List"), [], 18, 2, 0, 1, 99999, 0) := ⟨(zt_in (j := 10) (k := 131) rfl rfl), rfl, (zt_in (j := 1) (k := 9) rfl rfl), (zt_in (j := 10) (k := 130) rfl rfl), Or.inl rfl, by decide +kernel, by decide, fun h => absurd h (by decide)⟩
set_option maxRecDepth 100000 in
theorem zt_m_388 : zt_mOK (⟨"ColumnVaultModel", "find", "(Ljava/util/List;[JI)I"⟩, prog_13_method_76_code, 4, some (.int), [], 18, 3, 0, 1, 99999, 0) := ⟨(zt_in (j := 10) (k := 134) rfl rfl), rfl, (zt_in (j := 1) (k := 9) rfl rfl), (zt_in (j := 10) (k := 133) rfl rfl), Or.inl rfl, by decide +kernel, by decide, fun h => absurd h (by decide)⟩
set_option maxRecDepth 100000 in
theorem zt_m_389 : zt_mOK (⟨"ColumnVaultModel", "areSame", "([J[JI)Z"⟩, prog_13_method_75_code, 4, some (.boolean), [], 18, 3, 0, 1, 99999, 0) := ⟨(zt_in (j := 10) (k := 137) rfl rfl), rfl, (zt_in (j := 1) (k := 9) rfl rfl), (zt_in (j := 10) (k := 136) rfl rfl), Or.inl rfl, by decide +kernel, by decide, fun h => absurd h (by decide)⟩
set_option maxRecDepth 100000 in
theorem zt_m_390 : zt_mOK (⟨"ColumnVaultModel", "errors", "(I)I"⟩, prog_13_method_83_code, 6, some (.int), [], 18, 1, 0, 0, 0, 0) := ⟨(zt_in (j := 10) (k := 141) rfl rfl), rfl, (zt_in (j := 1) (k := 9) rfl rfl), (zt_in (j := 10) (k := 139) rfl rfl), Or.inr (zt_in (j := 10) (k := 140) rfl rfl), by decide +kernel, by decide, fun h => absurd h (by decide)⟩
set_option maxRecDepth 100000 in
theorem zt_m_391 : zt_mOK (⟨"ColumnVaultModel", "failsOfOrder", "(LColumnVaultModel$Table;II)I"⟩, prog_13_method_80_code, 10, some (.int), [], 18, 3, 0, 1, 99999, 0) := ⟨(zt_in (j := 10) (k := 144) rfl rfl), rfl, (zt_in (j := 1) (k := 9) rfl rfl), (zt_in (j := 10) (k := 143) rfl rfl), Or.inl rfl, by decide +kernel, by decide, fun h => absurd h (by decide)⟩
set_option maxRecDepth 100000 in
theorem zt_m_392 : zt_mOK (⟨"ColumnVaultModel", "failsOfGroups", "(LColumnVaultModel$Table;I)I"⟩, prog_13_method_81_code, 7, some (.int), [], 18, 2, 0, 1, 99999, 0) := ⟨(zt_in (j := 10) (k := 147) rfl rfl), rfl, (zt_in (j := 1) (k := 9) rfl rfl), (zt_in (j := 10) (k := 146) rfl rfl), Or.inl rfl, by decide +kernel, by decide, fun h => absurd h (by decide)⟩
set_option maxRecDepth 100000 in
theorem zt_m_393 : zt_mOK (⟨"ColumnVaultModel", "failsOfRanges", "(LColumnVaultModel$Table;I)I"⟩, prog_13_method_82_code, 13, some (.int), [], 18, 2, 0, 1, 99999, 0) := ⟨(zt_in (j := 10) (k := 150) rfl rfl), rfl, (zt_in (j := 1) (k := 9) rfl rfl), (zt_in (j := 10) (k := 149) rfl rfl), Or.inl rfl, by decide +kernel, by decide, fun h => absurd h (by decide)⟩
set_option maxRecDepth 100000 in
theorem zt_m_394 : zt_mOK (⟨"ColumnVaultModel", "meanOf", "(II)D"⟩, prog_13_method_84_code, 5, some (.double), [], 18, 2, 0, 0, 0, 0) := ⟨(zt_in (j := 10) (k := 155) rfl rfl), rfl, (zt_in (j := 1) (k := 9) rfl rfl), (zt_in (j := 10) (k := 153) rfl rfl), Or.inr (zt_in (j := 10) (k := 154) rfl rfl), by decide +kernel, by decide, fun h => absurd h (by decide)⟩
set_option maxRecDepth 100000 in
theorem zt_m_395 : zt_mOK (⟨"ColumnVaultModel", "chosenShare", "(I)F"⟩, prog_13_method_85_code, 3, some (.float), [], 18, 1, 0, 0, 0, 0) := ⟨(zt_in (j := 10) (k := 159) rfl rfl), rfl, (zt_in (j := 1) (k := 9) rfl rfl), (zt_in (j := 10) (k := 157) rfl rfl), Or.inr (zt_in (j := 10) (k := 158) rfl rfl), by decide +kernel, by decide, fun h => absurd h (by decide)⟩
theorem zt_mall0 : ∀ q ∈ zt_m0.tail, zt_mOK q := List.forall_mem_cons.mpr ⟨zt_m_1, List.forall_mem_cons.mpr ⟨zt_m_2, List.forall_mem_cons.mpr ⟨zt_m_3, List.forall_mem_cons.mpr ⟨zt_m_4, List.forall_mem_cons.mpr ⟨zt_m_5, List.forall_mem_cons.mpr ⟨zt_m_6, List.forall_mem_cons.mpr ⟨zt_m_7, List.forall_mem_cons.mpr ⟨zt_m_8, List.forall_mem_cons.mpr ⟨zt_m_9, List.forall_mem_cons.mpr ⟨zt_m_10, List.forall_mem_cons.mpr ⟨zt_m_11, List.forall_mem_cons.mpr ⟨zt_m_12, List.forall_mem_cons.mpr ⟨zt_m_13, List.forall_mem_cons.mpr ⟨zt_m_14, List.forall_mem_cons.mpr ⟨zt_m_15, List.forall_mem_cons.mpr ⟨zt_m_16, List.forall_mem_cons.mpr ⟨zt_m_17, List.forall_mem_cons.mpr ⟨zt_m_18, List.forall_mem_cons.mpr ⟨zt_m_19, List.forall_mem_cons.mpr ⟨zt_m_20, List.forall_mem_cons.mpr ⟨zt_m_21, List.forall_mem_cons.mpr ⟨zt_m_22, List.forall_mem_cons.mpr ⟨zt_m_23, List.forall_mem_cons.mpr ⟨zt_m_24, List.forall_mem_cons.mpr ⟨zt_m_25, List.forall_mem_cons.mpr ⟨zt_m_26, List.forall_mem_cons.mpr ⟨zt_m_27, List.forall_mem_cons.mpr ⟨zt_m_28, List.forall_mem_cons.mpr ⟨zt_m_29, List.forall_mem_cons.mpr ⟨zt_m_30, List.forall_mem_cons.mpr ⟨zt_m_31, List.forall_mem_cons.mpr ⟨zt_m_32, List.forall_mem_cons.mpr ⟨zt_m_33, List.forall_mem_cons.mpr ⟨zt_m_34, List.forall_mem_cons.mpr ⟨zt_m_35, List.forall_mem_cons.mpr ⟨zt_m_36, List.forall_mem_cons.mpr ⟨zt_m_37, List.forall_mem_cons.mpr ⟨zt_m_38, List.forall_mem_cons.mpr ⟨zt_m_39, List.forall_mem_cons.mpr ⟨zt_m_40, List.forall_mem_cons.mpr ⟨zt_m_41, List.forall_mem_cons.mpr ⟨zt_m_42, List.forall_mem_cons.mpr ⟨zt_m_43, List.forall_mem_cons.mpr ⟨zt_m_44, List.forall_mem_cons.mpr ⟨zt_m_45, List.forall_mem_cons.mpr ⟨zt_m_46, List.forall_mem_cons.mpr ⟨zt_m_47, List.forall_mem_cons.mpr ⟨zt_m_48, List.forall_mem_cons.mpr ⟨zt_m_49, List.forall_mem_cons.mpr ⟨zt_m_50, List.forall_mem_cons.mpr ⟨zt_m_51, List.forall_mem_cons.mpr ⟨zt_m_52, List.forall_mem_cons.mpr ⟨zt_m_53, List.forall_mem_cons.mpr ⟨zt_m_54, List.forall_mem_cons.mpr ⟨zt_m_55, List.forall_mem_cons.mpr ⟨zt_m_56, List.forall_mem_cons.mpr ⟨zt_m_57, List.forall_mem_cons.mpr ⟨zt_m_58, List.forall_mem_cons.mpr ⟨zt_m_59, fun _ h => absurd h List.not_mem_nil⟩⟩⟩⟩⟩⟩⟩⟩⟩⟩⟩⟩⟩⟩⟩⟩⟩⟩⟩⟩⟩⟩⟩⟩⟩⟩⟩⟩⟩⟩⟩⟩⟩⟩⟩⟩⟩⟩⟩⟩⟩⟩⟩⟩⟩⟩⟩⟩⟩⟩⟩⟩⟩⟩⟩⟩⟩⟩⟩
theorem zt_mall1 : ∀ q ∈ zt_m1, zt_mOK q := List.forall_mem_cons.mpr ⟨zt_m_60, List.forall_mem_cons.mpr ⟨zt_m_61, List.forall_mem_cons.mpr ⟨zt_m_62, List.forall_mem_cons.mpr ⟨zt_m_63, List.forall_mem_cons.mpr ⟨zt_m_64, List.forall_mem_cons.mpr ⟨zt_m_65, List.forall_mem_cons.mpr ⟨zt_m_66, List.forall_mem_cons.mpr ⟨zt_m_67, List.forall_mem_cons.mpr ⟨zt_m_68, List.forall_mem_cons.mpr ⟨zt_m_69, List.forall_mem_cons.mpr ⟨zt_m_70, List.forall_mem_cons.mpr ⟨zt_m_71, List.forall_mem_cons.mpr ⟨zt_m_72, List.forall_mem_cons.mpr ⟨zt_m_73, List.forall_mem_cons.mpr ⟨zt_m_74, List.forall_mem_cons.mpr ⟨zt_m_75, List.forall_mem_cons.mpr ⟨zt_m_76, List.forall_mem_cons.mpr ⟨zt_m_77, List.forall_mem_cons.mpr ⟨zt_m_78, List.forall_mem_cons.mpr ⟨zt_m_79, List.forall_mem_cons.mpr ⟨zt_m_80, List.forall_mem_cons.mpr ⟨zt_m_81, List.forall_mem_cons.mpr ⟨zt_m_82, List.forall_mem_cons.mpr ⟨zt_m_83, List.forall_mem_cons.mpr ⟨zt_m_84, List.forall_mem_cons.mpr ⟨zt_m_85, List.forall_mem_cons.mpr ⟨zt_m_86, List.forall_mem_cons.mpr ⟨zt_m_87, List.forall_mem_cons.mpr ⟨zt_m_88, List.forall_mem_cons.mpr ⟨zt_m_89, List.forall_mem_cons.mpr ⟨zt_m_90, List.forall_mem_cons.mpr ⟨zt_m_91, List.forall_mem_cons.mpr ⟨zt_m_92, List.forall_mem_cons.mpr ⟨zt_m_93, List.forall_mem_cons.mpr ⟨zt_m_94, List.forall_mem_cons.mpr ⟨zt_m_95, List.forall_mem_cons.mpr ⟨zt_m_96, List.forall_mem_cons.mpr ⟨zt_m_97, List.forall_mem_cons.mpr ⟨zt_m_98, List.forall_mem_cons.mpr ⟨zt_m_99, List.forall_mem_cons.mpr ⟨zt_m_100, List.forall_mem_cons.mpr ⟨zt_m_101, List.forall_mem_cons.mpr ⟨zt_m_102, List.forall_mem_cons.mpr ⟨zt_m_103, List.forall_mem_cons.mpr ⟨zt_m_104, List.forall_mem_cons.mpr ⟨zt_m_105, List.forall_mem_cons.mpr ⟨zt_m_106, List.forall_mem_cons.mpr ⟨zt_m_107, List.forall_mem_cons.mpr ⟨zt_m_108, List.forall_mem_cons.mpr ⟨zt_m_109, List.forall_mem_cons.mpr ⟨zt_m_110, List.forall_mem_cons.mpr ⟨zt_m_111, List.forall_mem_cons.mpr ⟨zt_m_112, List.forall_mem_cons.mpr ⟨zt_m_113, List.forall_mem_cons.mpr ⟨zt_m_114, List.forall_mem_cons.mpr ⟨zt_m_115, List.forall_mem_cons.mpr ⟨zt_m_116, List.forall_mem_cons.mpr ⟨zt_m_117, List.forall_mem_cons.mpr ⟨zt_m_118, List.forall_mem_cons.mpr ⟨zt_m_119, fun _ h => absurd h List.not_mem_nil⟩⟩⟩⟩⟩⟩⟩⟩⟩⟩⟩⟩⟩⟩⟩⟩⟩⟩⟩⟩⟩⟩⟩⟩⟩⟩⟩⟩⟩⟩⟩⟩⟩⟩⟩⟩⟩⟩⟩⟩⟩⟩⟩⟩⟩⟩⟩⟩⟩⟩⟩⟩⟩⟩⟩⟩⟩⟩⟩⟩
theorem zt_mall2 : ∀ q ∈ zt_m2, zt_mOK q := List.forall_mem_cons.mpr ⟨zt_m_120, List.forall_mem_cons.mpr ⟨zt_m_121, List.forall_mem_cons.mpr ⟨zt_m_122, List.forall_mem_cons.mpr ⟨zt_m_123, List.forall_mem_cons.mpr ⟨zt_m_124, List.forall_mem_cons.mpr ⟨zt_m_125, List.forall_mem_cons.mpr ⟨zt_m_126, List.forall_mem_cons.mpr ⟨zt_m_127, List.forall_mem_cons.mpr ⟨zt_m_128, List.forall_mem_cons.mpr ⟨zt_m_129, List.forall_mem_cons.mpr ⟨zt_m_130, List.forall_mem_cons.mpr ⟨zt_m_131, List.forall_mem_cons.mpr ⟨zt_m_132, List.forall_mem_cons.mpr ⟨zt_m_133, List.forall_mem_cons.mpr ⟨zt_m_134, List.forall_mem_cons.mpr ⟨zt_m_135, List.forall_mem_cons.mpr ⟨zt_m_136, List.forall_mem_cons.mpr ⟨zt_m_137, List.forall_mem_cons.mpr ⟨zt_m_138, List.forall_mem_cons.mpr ⟨zt_m_139, List.forall_mem_cons.mpr ⟨zt_m_140, List.forall_mem_cons.mpr ⟨zt_m_141, List.forall_mem_cons.mpr ⟨zt_m_142, List.forall_mem_cons.mpr ⟨zt_m_143, List.forall_mem_cons.mpr ⟨zt_m_144, List.forall_mem_cons.mpr ⟨zt_m_145, List.forall_mem_cons.mpr ⟨zt_m_146, List.forall_mem_cons.mpr ⟨zt_m_147, List.forall_mem_cons.mpr ⟨zt_m_148, List.forall_mem_cons.mpr ⟨zt_m_149, List.forall_mem_cons.mpr ⟨zt_m_150, List.forall_mem_cons.mpr ⟨zt_m_151, List.forall_mem_cons.mpr ⟨zt_m_152, List.forall_mem_cons.mpr ⟨zt_m_153, List.forall_mem_cons.mpr ⟨zt_m_154, List.forall_mem_cons.mpr ⟨zt_m_155, List.forall_mem_cons.mpr ⟨zt_m_156, List.forall_mem_cons.mpr ⟨zt_m_157, List.forall_mem_cons.mpr ⟨zt_m_158, List.forall_mem_cons.mpr ⟨zt_m_159, List.forall_mem_cons.mpr ⟨zt_m_160, List.forall_mem_cons.mpr ⟨zt_m_161, List.forall_mem_cons.mpr ⟨zt_m_162, List.forall_mem_cons.mpr ⟨zt_m_163, List.forall_mem_cons.mpr ⟨zt_m_164, List.forall_mem_cons.mpr ⟨zt_m_165, List.forall_mem_cons.mpr ⟨zt_m_166, List.forall_mem_cons.mpr ⟨zt_m_167, List.forall_mem_cons.mpr ⟨zt_m_168, List.forall_mem_cons.mpr ⟨zt_m_169, List.forall_mem_cons.mpr ⟨zt_m_170, List.forall_mem_cons.mpr ⟨zt_m_171, List.forall_mem_cons.mpr ⟨zt_m_172, List.forall_mem_cons.mpr ⟨zt_m_173, List.forall_mem_cons.mpr ⟨zt_m_174, List.forall_mem_cons.mpr ⟨zt_m_175, List.forall_mem_cons.mpr ⟨zt_m_176, List.forall_mem_cons.mpr ⟨zt_m_177, List.forall_mem_cons.mpr ⟨zt_m_178, List.forall_mem_cons.mpr ⟨zt_m_179, fun _ h => absurd h List.not_mem_nil⟩⟩⟩⟩⟩⟩⟩⟩⟩⟩⟩⟩⟩⟩⟩⟩⟩⟩⟩⟩⟩⟩⟩⟩⟩⟩⟩⟩⟩⟩⟩⟩⟩⟩⟩⟩⟩⟩⟩⟩⟩⟩⟩⟩⟩⟩⟩⟩⟩⟩⟩⟩⟩⟩⟩⟩⟩⟩⟩⟩
theorem zt_mall3 : ∀ q ∈ zt_m3, zt_mOK q := List.forall_mem_cons.mpr ⟨zt_m_180, List.forall_mem_cons.mpr ⟨zt_m_181, List.forall_mem_cons.mpr ⟨zt_m_182, List.forall_mem_cons.mpr ⟨zt_m_183, List.forall_mem_cons.mpr ⟨zt_m_184, List.forall_mem_cons.mpr ⟨zt_m_185, List.forall_mem_cons.mpr ⟨zt_m_186, List.forall_mem_cons.mpr ⟨zt_m_187, List.forall_mem_cons.mpr ⟨zt_m_188, List.forall_mem_cons.mpr ⟨zt_m_189, List.forall_mem_cons.mpr ⟨zt_m_190, List.forall_mem_cons.mpr ⟨zt_m_191, List.forall_mem_cons.mpr ⟨zt_m_192, List.forall_mem_cons.mpr ⟨zt_m_193, List.forall_mem_cons.mpr ⟨zt_m_194, List.forall_mem_cons.mpr ⟨zt_m_195, List.forall_mem_cons.mpr ⟨zt_m_196, List.forall_mem_cons.mpr ⟨zt_m_197, List.forall_mem_cons.mpr ⟨zt_m_198, List.forall_mem_cons.mpr ⟨zt_m_199, List.forall_mem_cons.mpr ⟨zt_m_200, List.forall_mem_cons.mpr ⟨zt_m_201, List.forall_mem_cons.mpr ⟨zt_m_202, List.forall_mem_cons.mpr ⟨zt_m_203, List.forall_mem_cons.mpr ⟨zt_m_204, List.forall_mem_cons.mpr ⟨zt_m_205, List.forall_mem_cons.mpr ⟨zt_m_206, List.forall_mem_cons.mpr ⟨zt_m_207, List.forall_mem_cons.mpr ⟨zt_m_208, List.forall_mem_cons.mpr ⟨zt_m_209, List.forall_mem_cons.mpr ⟨zt_m_210, List.forall_mem_cons.mpr ⟨zt_m_211, List.forall_mem_cons.mpr ⟨zt_m_212, List.forall_mem_cons.mpr ⟨zt_m_213, List.forall_mem_cons.mpr ⟨zt_m_214, List.forall_mem_cons.mpr ⟨zt_m_215, List.forall_mem_cons.mpr ⟨zt_m_216, List.forall_mem_cons.mpr ⟨zt_m_217, List.forall_mem_cons.mpr ⟨zt_m_218, List.forall_mem_cons.mpr ⟨zt_m_219, List.forall_mem_cons.mpr ⟨zt_m_220, List.forall_mem_cons.mpr ⟨zt_m_221, List.forall_mem_cons.mpr ⟨zt_m_222, List.forall_mem_cons.mpr ⟨zt_m_223, List.forall_mem_cons.mpr ⟨zt_m_224, List.forall_mem_cons.mpr ⟨zt_m_225, List.forall_mem_cons.mpr ⟨zt_m_226, List.forall_mem_cons.mpr ⟨zt_m_227, List.forall_mem_cons.mpr ⟨zt_m_228, List.forall_mem_cons.mpr ⟨zt_m_229, List.forall_mem_cons.mpr ⟨zt_m_230, List.forall_mem_cons.mpr ⟨zt_m_231, List.forall_mem_cons.mpr ⟨zt_m_232, List.forall_mem_cons.mpr ⟨zt_m_233, List.forall_mem_cons.mpr ⟨zt_m_234, List.forall_mem_cons.mpr ⟨zt_m_235, List.forall_mem_cons.mpr ⟨zt_m_236, List.forall_mem_cons.mpr ⟨zt_m_237, List.forall_mem_cons.mpr ⟨zt_m_238, List.forall_mem_cons.mpr ⟨zt_m_239, fun _ h => absurd h List.not_mem_nil⟩⟩⟩⟩⟩⟩⟩⟩⟩⟩⟩⟩⟩⟩⟩⟩⟩⟩⟩⟩⟩⟩⟩⟩⟩⟩⟩⟩⟩⟩⟩⟩⟩⟩⟩⟩⟩⟩⟩⟩⟩⟩⟩⟩⟩⟩⟩⟩⟩⟩⟩⟩⟩⟩⟩⟩⟩⟩⟩⟩
theorem zt_mall4 : ∀ q ∈ zt_m4, zt_mOK q := List.forall_mem_cons.mpr ⟨zt_m_240, List.forall_mem_cons.mpr ⟨zt_m_241, List.forall_mem_cons.mpr ⟨zt_m_242, List.forall_mem_cons.mpr ⟨zt_m_243, List.forall_mem_cons.mpr ⟨zt_m_244, List.forall_mem_cons.mpr ⟨zt_m_245, List.forall_mem_cons.mpr ⟨zt_m_246, List.forall_mem_cons.mpr ⟨zt_m_247, List.forall_mem_cons.mpr ⟨zt_m_248, List.forall_mem_cons.mpr ⟨zt_m_249, List.forall_mem_cons.mpr ⟨zt_m_250, List.forall_mem_cons.mpr ⟨zt_m_251, List.forall_mem_cons.mpr ⟨zt_m_252, List.forall_mem_cons.mpr ⟨zt_m_253, List.forall_mem_cons.mpr ⟨zt_m_254, List.forall_mem_cons.mpr ⟨zt_m_255, List.forall_mem_cons.mpr ⟨zt_m_256, List.forall_mem_cons.mpr ⟨zt_m_257, List.forall_mem_cons.mpr ⟨zt_m_258, List.forall_mem_cons.mpr ⟨zt_m_259, List.forall_mem_cons.mpr ⟨zt_m_260, List.forall_mem_cons.mpr ⟨zt_m_261, List.forall_mem_cons.mpr ⟨zt_m_262, List.forall_mem_cons.mpr ⟨zt_m_263, List.forall_mem_cons.mpr ⟨zt_m_264, List.forall_mem_cons.mpr ⟨zt_m_265, List.forall_mem_cons.mpr ⟨zt_m_266, List.forall_mem_cons.mpr ⟨zt_m_267, List.forall_mem_cons.mpr ⟨zt_m_268, List.forall_mem_cons.mpr ⟨zt_m_269, List.forall_mem_cons.mpr ⟨zt_m_270, List.forall_mem_cons.mpr ⟨zt_m_271, List.forall_mem_cons.mpr ⟨zt_m_272, List.forall_mem_cons.mpr ⟨zt_m_273, List.forall_mem_cons.mpr ⟨zt_m_274, List.forall_mem_cons.mpr ⟨zt_m_275, List.forall_mem_cons.mpr ⟨zt_m_276, List.forall_mem_cons.mpr ⟨zt_m_277, List.forall_mem_cons.mpr ⟨zt_m_278, List.forall_mem_cons.mpr ⟨zt_m_279, List.forall_mem_cons.mpr ⟨zt_m_280, List.forall_mem_cons.mpr ⟨zt_m_281, List.forall_mem_cons.mpr ⟨zt_m_282, List.forall_mem_cons.mpr ⟨zt_m_283, List.forall_mem_cons.mpr ⟨zt_m_284, List.forall_mem_cons.mpr ⟨zt_m_285, List.forall_mem_cons.mpr ⟨zt_m_286, List.forall_mem_cons.mpr ⟨zt_m_287, List.forall_mem_cons.mpr ⟨zt_m_288, List.forall_mem_cons.mpr ⟨zt_m_289, List.forall_mem_cons.mpr ⟨zt_m_290, List.forall_mem_cons.mpr ⟨zt_m_291, List.forall_mem_cons.mpr ⟨zt_m_292, List.forall_mem_cons.mpr ⟨zt_m_293, List.forall_mem_cons.mpr ⟨zt_m_294, List.forall_mem_cons.mpr ⟨zt_m_295, List.forall_mem_cons.mpr ⟨zt_m_296, List.forall_mem_cons.mpr ⟨zt_m_297, List.forall_mem_cons.mpr ⟨zt_m_298, List.forall_mem_cons.mpr ⟨zt_m_299, fun _ h => absurd h List.not_mem_nil⟩⟩⟩⟩⟩⟩⟩⟩⟩⟩⟩⟩⟩⟩⟩⟩⟩⟩⟩⟩⟩⟩⟩⟩⟩⟩⟩⟩⟩⟩⟩⟩⟩⟩⟩⟩⟩⟩⟩⟩⟩⟩⟩⟩⟩⟩⟩⟩⟩⟩⟩⟩⟩⟩⟩⟩⟩⟩⟩⟩
theorem zt_mall5 : ∀ q ∈ zt_m5, zt_mOK q := List.forall_mem_cons.mpr ⟨zt_m_300, List.forall_mem_cons.mpr ⟨zt_m_301, List.forall_mem_cons.mpr ⟨zt_m_302, List.forall_mem_cons.mpr ⟨zt_m_303, List.forall_mem_cons.mpr ⟨zt_m_304, List.forall_mem_cons.mpr ⟨zt_m_305, List.forall_mem_cons.mpr ⟨zt_m_306, List.forall_mem_cons.mpr ⟨zt_m_307, List.forall_mem_cons.mpr ⟨zt_m_308, List.forall_mem_cons.mpr ⟨zt_m_309, List.forall_mem_cons.mpr ⟨zt_m_310, List.forall_mem_cons.mpr ⟨zt_m_311, List.forall_mem_cons.mpr ⟨zt_m_312, List.forall_mem_cons.mpr ⟨zt_m_313, List.forall_mem_cons.mpr ⟨zt_m_314, List.forall_mem_cons.mpr ⟨zt_m_315, List.forall_mem_cons.mpr ⟨zt_m_316, List.forall_mem_cons.mpr ⟨zt_m_317, List.forall_mem_cons.mpr ⟨zt_m_318, List.forall_mem_cons.mpr ⟨zt_m_319, List.forall_mem_cons.mpr ⟨zt_m_320, List.forall_mem_cons.mpr ⟨zt_m_321, List.forall_mem_cons.mpr ⟨zt_m_322, List.forall_mem_cons.mpr ⟨zt_m_323, List.forall_mem_cons.mpr ⟨zt_m_324, List.forall_mem_cons.mpr ⟨zt_m_325, List.forall_mem_cons.mpr ⟨zt_m_326, List.forall_mem_cons.mpr ⟨zt_m_327, List.forall_mem_cons.mpr ⟨zt_m_328, List.forall_mem_cons.mpr ⟨zt_m_329, List.forall_mem_cons.mpr ⟨zt_m_330, List.forall_mem_cons.mpr ⟨zt_m_331, List.forall_mem_cons.mpr ⟨zt_m_332, List.forall_mem_cons.mpr ⟨zt_m_333, List.forall_mem_cons.mpr ⟨zt_m_334, List.forall_mem_cons.mpr ⟨zt_m_335, List.forall_mem_cons.mpr ⟨zt_m_336, List.forall_mem_cons.mpr ⟨zt_m_337, List.forall_mem_cons.mpr ⟨zt_m_338, List.forall_mem_cons.mpr ⟨zt_m_339, List.forall_mem_cons.mpr ⟨zt_m_340, List.forall_mem_cons.mpr ⟨zt_m_341, List.forall_mem_cons.mpr ⟨zt_m_342, List.forall_mem_cons.mpr ⟨zt_m_343, List.forall_mem_cons.mpr ⟨zt_m_344, List.forall_mem_cons.mpr ⟨zt_m_345, List.forall_mem_cons.mpr ⟨zt_m_346, List.forall_mem_cons.mpr ⟨zt_m_347, List.forall_mem_cons.mpr ⟨zt_m_348, List.forall_mem_cons.mpr ⟨zt_m_349, List.forall_mem_cons.mpr ⟨zt_m_350, List.forall_mem_cons.mpr ⟨zt_m_351, List.forall_mem_cons.mpr ⟨zt_m_352, List.forall_mem_cons.mpr ⟨zt_m_353, List.forall_mem_cons.mpr ⟨zt_m_354, List.forall_mem_cons.mpr ⟨zt_m_355, List.forall_mem_cons.mpr ⟨zt_m_356, List.forall_mem_cons.mpr ⟨zt_m_357, List.forall_mem_cons.mpr ⟨zt_m_358, List.forall_mem_cons.mpr ⟨zt_m_359, fun _ h => absurd h List.not_mem_nil⟩⟩⟩⟩⟩⟩⟩⟩⟩⟩⟩⟩⟩⟩⟩⟩⟩⟩⟩⟩⟩⟩⟩⟩⟩⟩⟩⟩⟩⟩⟩⟩⟩⟩⟩⟩⟩⟩⟩⟩⟩⟩⟩⟩⟩⟩⟩⟩⟩⟩⟩⟩⟩⟩⟩⟩⟩⟩⟩⟩
theorem zt_mall6 : ∀ q ∈ zt_m6, zt_mOK q := List.forall_mem_cons.mpr ⟨zt_m_360, List.forall_mem_cons.mpr ⟨zt_m_361, List.forall_mem_cons.mpr ⟨zt_m_362, List.forall_mem_cons.mpr ⟨zt_m_363, List.forall_mem_cons.mpr ⟨zt_m_364, List.forall_mem_cons.mpr ⟨zt_m_365, List.forall_mem_cons.mpr ⟨zt_m_366, List.forall_mem_cons.mpr ⟨zt_m_367, List.forall_mem_cons.mpr ⟨zt_m_368, List.forall_mem_cons.mpr ⟨zt_m_369, List.forall_mem_cons.mpr ⟨zt_m_370, List.forall_mem_cons.mpr ⟨zt_m_371, List.forall_mem_cons.mpr ⟨zt_m_372, List.forall_mem_cons.mpr ⟨zt_m_373, List.forall_mem_cons.mpr ⟨zt_m_374, List.forall_mem_cons.mpr ⟨zt_m_375, List.forall_mem_cons.mpr ⟨zt_m_376, List.forall_mem_cons.mpr ⟨zt_m_377, List.forall_mem_cons.mpr ⟨zt_m_378, List.forall_mem_cons.mpr ⟨zt_m_379, List.forall_mem_cons.mpr ⟨zt_m_380, List.forall_mem_cons.mpr ⟨zt_m_381, List.forall_mem_cons.mpr ⟨zt_m_382, List.forall_mem_cons.mpr ⟨zt_m_383, List.forall_mem_cons.mpr ⟨zt_m_384, List.forall_mem_cons.mpr ⟨zt_m_385, List.forall_mem_cons.mpr ⟨zt_m_386, List.forall_mem_cons.mpr ⟨zt_m_387, List.forall_mem_cons.mpr ⟨zt_m_388, List.forall_mem_cons.mpr ⟨zt_m_389, List.forall_mem_cons.mpr ⟨zt_m_390, List.forall_mem_cons.mpr ⟨zt_m_391, List.forall_mem_cons.mpr ⟨zt_m_392, List.forall_mem_cons.mpr ⟨zt_m_393, List.forall_mem_cons.mpr ⟨zt_m_394, List.forall_mem_cons.mpr ⟨zt_m_395, fun _ h => absurd h List.not_mem_nil⟩⟩⟩⟩⟩⟩⟩⟩⟩⟩⟩⟩⟩⟩⟩⟩⟩⟩⟩⟩⟩⟩⟩⟩⟩⟩⟩⟩⟩⟩⟩⟩⟩⟩⟩⟩
theorem zt_mall : ∀ q ∈ zt_m.tail, zt_mOK q := by
  intro q hq
  have h : q ∈ zt_m0.tail ++ (zt_m1 ++ (zt_m2 ++ (zt_m3 ++ (zt_m4 ++ (zt_m5 ++ (zt_m6)))))) := hq
  simp only [List.mem_append] at h
  rcases h with h | h | h | h | h | h | h
  · exact zt_mall0 q h
  · exact zt_mall1 q h
  · exact zt_mall2 q h
  · exact zt_mall3 q h
  · exact zt_mall4 q h
  · exact zt_mall5 q h
  · exact zt_mall6 q h
theorem zt_m_ok {mi : Nat} {q : zx_M} (h : zt_m[mi + 1]? = some q) : zt_mOK q := zt_mall q (List.mem_of_getElem? (i := mi) (by rw [← h]; rfl))
def zt_eOK (own : String) (e : Nat × Nat × Nat × Nat × Nat) : Prop := match e with
  | (i, kd, x, y, _) => match kd with
    | 0 => ∃ (r : vw_C) (ref : String), zt_cl[x]? = some r ∧ y < r.2.2 ∧ Cond.fieldLink own i ref (r.2.1 y).2.1 (r.2.1 y).2.2.1 ∈ zt_good ∧ (ref = (r.2.1 y).1 ∨ Cond.sameField ref (r.2.1 y).1 (r.2.1 y).2.1 (r.2.1 y).2.2.1 ∈ zt_good)
    | 1 => ∃ (r : vw_C) (host : String), zt_cl[x]? = some r ∧ y < r.2.2 ∧ Cond.fieldLinkNest own i (r.2.1 y).1 (r.2.1 y).2.1 (r.2.1 y).2.2.1 host ∈ zt_nw
    | 2 => ∃ C : String, Cond.classLink own i C ∈ zt_good ∧ (x = 999 ∨ (zt_cl[x]?).map (·.1) = some C) ∧ (y = 999 ∨ zt_at[y]? = some (.object C))
    | 4 | 6 | 8 => ∃ q : zx_M, zt_m[x]? = some q ∧ Cond.methodLink own i q.1 ∈ zt_good
    | 5 | 7 | 9 => ∃ (q : zx_M) (host : String), zt_m[x]? = some q ∧ Cond.methodLinkNest own i q.1 host ∈ zt_nw
    | 10 => Cond.methodLink own i objectInit ∈ zt_good
    | 11 => ∃ x9 : MethodName, zt_ift[y]? = some (x9, x) ∧ Cond.methodLink own i x9 ∈ zt_good
    | 13 => ∃ tx : String, Cond.stringRef own i tx ∈ lw_tbl ∧ (y = 1 → (own, i, tx, x) ∈ zt_str)
    | 14 => ∃ e : String × String × String, zt_stn[x]? = some e ∧ Cond.fieldLink own i e.1 e.2.1 e.2.2 ∈ zt_good
    | 16 => (y = 0 ∧ Cond.methodLink own i Lib.Math.max.name ∈ zt_good ∧ Cond.static Lib.Math.max.name ∈ zt_good ∧ Cond.initialized "java/lang/Math" ∈ zt_good ∧ Cond.code Lib.Math.max.name Lib.Math.max.code 2 (some .int) ∈ zt_good) ∨
        (y = 1 ∧ Cond.methodLink own i Lib.Math.min.name ∈ zt_good ∧ Cond.static Lib.Math.min.name ∈ zt_good ∧ Cond.initialized "java/lang/Math" ∈ zt_good ∧ Cond.code Lib.Math.min.name Lib.Math.min.code 2 (some .int) ∈ zt_good) ∨
        (y = 2 ∧ Cond.methodLink own i Lib.MathLoose.min_long.x ∈ zt_good ∧ Cond.static Lib.MathLoose.min_long.x ∈ zt_good ∧ Cond.initialized "java/lang/Math" ∈ zt_good ∧ Cond.code Lib.MathLoose.min_long.x Lib.MathLoose.min_long.code 4 (some .long) ∈ zt_good)
    | 17 => Cond.methodLink own i arraycopyName ∈ zt_good
    | 18 => ∃ (nm : String) (ty : FieldType), Cond.classLink own i nm ∈ zt_good ∧ zt_at[x]? = some ty ∧ nm = "[" ++ ty.toString
    | 19 => Cond.classLink own i "java/lang/Boolean" ∈ zt_good
    | _ => False
set_option maxRecDepth 100000 in
theorem zt_e0_18 : zt_eOK "java/lang/String" (1065, 4, 350, 0, 9198) := ⟨_, rfl, (zt_in (j := 9) (k := 198) rfl rfl)⟩
set_option maxRecDepth 100000 in
theorem zt_e0_17 : zt_eOK "java/lang/String" (1062, 4, 341, 0, 9166) := ⟨_, rfl, (zt_in (j := 9) (k := 166) rfl rfl)⟩
set_option maxRecDepth 100000 in
theorem zt_e0_16 : zt_eOK "java/lang/String" (1059, 4, 134, 0, 4181) := ⟨_, rfl, (zt_in (j := 4) (k := 181) rfl rfl)⟩
set_option maxRecDepth 100000 in
theorem zt_e0_15 : zt_eOK "java/lang/String" (1053, 14, 7, 0, 4179) := ⟨_, rfl, (zt_in (j := 4) (k := 179) rfl rfl)⟩
set_option maxRecDepth 100000 in
theorem zt_e0_14 : zt_eOK "java/lang/String" (1051, 4, 367, 0, 10037) := ⟨_, rfl, (zt_in (j := 10) (k := 37) rfl rfl)⟩
set_option maxRecDepth 100000 in
theorem zt_e0_13 : zt_eOK "java/lang/String" (1048, 0, 1, 2, 9109) := ⟨_, "java/lang/AbstractStringBuilder", rfl, by decide, (zt_in (j := 9) (k := 109) rfl rfl), Or.inl rfl⟩
set_option maxRecDepth 100000 in
theorem zt_e0_12 : zt_eOK "java/lang/String" (498, 4, 135, 0, 4184) := ⟨_, rfl, (zt_in (j := 4) (k := 184) rfl rfl)⟩
set_option maxRecDepth 100000 in
theorem zt_e0_11 : zt_eOK "java/lang/String" (495, 4, 132, 0, 4173) := ⟨_, rfl, (zt_in (j := 4) (k := 173) rfl rfl)⟩
set_option maxRecDepth 100000 in
theorem zt_e0_10 : zt_eOK "java/lang/String" (492, 6, 131, 0, 4169) := ⟨_, rfl, (zt_in (j := 4) (k := 169) rfl rfl)⟩
set_option maxRecDepth 100000 in
theorem zt_e0_9 : zt_eOK "java/lang/String" (489, 8, 360, 0, 10002) := ⟨_, rfl, (zt_in (j := 10) (k := 2) rfl rfl)⟩
set_option maxRecDepth 100000 in
theorem zt_e0_8 : zt_eOK "java/lang/String" (335, 6, 129, 0, 4159) := ⟨_, rfl, (zt_in (j := 4) (k := 159) rfl rfl)⟩
set_option maxRecDepth 100000 in
theorem zt_e0_7 : zt_eOK "java/lang/String" (212, 17, 0, 0, 9205) := (zt_in (j := 9) (k := 205) rfl rfl)
set_option maxRecDepth 100000 in
theorem zt_e0_6 : zt_eOK "java/lang/String" (106, 4, 346, 0, 9206) := ⟨_, rfl, (zt_in (j := 9) (k := 206) rfl rfl)⟩
set_option maxRecDepth 100000 in
theorem zt_e0_5 : zt_eOK "java/lang/String" (54, 4, 364, 0, 10020) := ⟨_, rfl, (zt_in (j := 10) (k := 20) rfl rfl)⟩
set_option maxRecDepth 100000 in
theorem zt_e0_4 : zt_eOK "java/lang/String" (47, 4, 369, 0, 10044) := ⟨_, rfl, (zt_in (j := 10) (k := 44) rfl rfl)⟩
set_option maxRecDepth 100000 in
theorem zt_e0_3 : zt_eOK "java/lang/String" (38, 14, 6, 0, 4163) := ⟨_, rfl, (zt_in (j := 4) (k := 163) rfl rfl)⟩
set_option maxRecDepth 100000 in
theorem zt_e0_2 : zt_eOK "java/lang/String" (15, 0, 0, 1, 10048) := ⟨_, "java/lang/String", rfl, by decide, (zt_in (j := 10) (k := 48) rfl rfl), Or.inl rfl⟩
set_option maxRecDepth 100000 in
theorem zt_e0_1 : zt_eOK "java/lang/String" (9, 0, 0, 0, 10047) := ⟨_, "java/lang/String", rfl, by decide, (zt_in (j := 10) (k := 47) rfl rfl), Or.inl rfl⟩
set_option maxRecDepth 100000 in
theorem zt_e0_0 : zt_eOK "java/lang/String" (1, 10, 0, 0, 10005) := (zt_in (j := 10) (k := 5) rfl rfl)
theorem zt_pl0_ok : ∀ e ∈ zt_pl0, zt_eOK "java/lang/String" e := List.forall_mem_cons.mpr ⟨zt_e0_0, List.forall_mem_cons.mpr ⟨zt_e0_1, List.forall_mem_cons.mpr ⟨zt_e0_2, List.forall_mem_cons.mpr ⟨zt_e0_3, List.forall_mem_cons.mpr ⟨zt_e0_4, List.forall_mem_cons.mpr ⟨zt_e0_5, List.forall_mem_cons.mpr ⟨zt_e0_6, List.forall_mem_cons.mpr ⟨zt_e0_7, List.forall_mem_cons.mpr ⟨zt_e0_8, List.forall_mem_cons.mpr ⟨zt_e0_9, List.forall_mem_cons.mpr ⟨zt_e0_10, List.forall_mem_cons.mpr ⟨zt_e0_11, List.forall_mem_cons.mpr ⟨zt_e0_12, List.forall_mem_cons.mpr ⟨zt_e0_13, List.forall_mem_cons.mpr ⟨zt_e0_14, List.forall_mem_cons.mpr ⟨zt_e0_15, List.forall_mem_cons.mpr ⟨zt_e0_16, List.forall_mem_cons.mpr ⟨zt_e0_17, List.forall_mem_cons.mpr ⟨zt_e0_18, fun _ h => absurd h List.not_mem_nil⟩⟩⟩⟩⟩⟩⟩⟩⟩⟩⟩⟩⟩⟩⟩⟩⟩⟩⟩
set_option maxRecDepth 100000 in
theorem zt_lc0_ok : ∀ e ∈ zt_lc0, Cond.constantLong "java/lang/String" e.1 e.2.1 ∈ zt_good := fun _ h => absurd h List.not_mem_nil
set_option maxRecDepth 100000 in
theorem zt_e1_2 : zt_eOK "java/lang/StringBuilder" (137, 8, 359, 0, 9239) := ⟨_, rfl, (zt_in (j := 9) (k := 239) rfl rfl)⟩
set_option maxRecDepth 100000 in
theorem zt_e1_1 : zt_eOK "java/lang/StringBuilder" (18, 2, 0, 999, 9237) := ⟨"java/lang/String", (zt_in (j := 9) (k := 237) rfl rfl), Or.inr rfl, Or.inl rfl⟩
set_option maxRecDepth 100000 in
theorem zt_e1_0 : zt_eOK "java/lang/StringBuilder" (1, 8, 328, 0, 9095) := ⟨_, rfl, (zt_in (j := 9) (k := 95) rfl rfl)⟩
theorem zt_pl1_ok : ∀ e ∈ zt_pl1, zt_eOK "java/lang/StringBuilder" e := List.forall_mem_cons.mpr ⟨zt_e1_0, List.forall_mem_cons.mpr ⟨zt_e1_1, List.forall_mem_cons.mpr ⟨zt_e1_2, fun _ h => absurd h List.not_mem_nil⟩⟩⟩
set_option maxRecDepth 100000 in
theorem zt_lc1_ok : ∀ e ∈ zt_lc1, Cond.constantLong "java/lang/StringBuilder" e.1 e.2.1 ∈ zt_good := fun _ h => absurd h List.not_mem_nil
set_option maxRecDepth 100000 in
theorem zt_e2_5 : zt_eOK "java/lang/Integer" (205, 0, 2, 0, 7111) := ⟨_, "java/lang/Integer", rfl, by decide, (zt_in (j := 7) (k := 111) rfl rfl), Or.inl rfl⟩
set_option maxRecDepth 100000 in
theorem zt_e2_4 : zt_eOK "java/lang/Integer" (202, 8, 241, 0, 7107) := ⟨_, rfl, (zt_in (j := 7) (k := 107) rfl rfl)⟩
set_option maxRecDepth 100000 in
theorem zt_e2_3 : zt_eOK "java/lang/Integer" (199, 8, 240, 0, 7104) := ⟨_, rfl, (zt_in (j := 7) (k := 104) rfl rfl)⟩
set_option maxRecDepth 100000 in
theorem zt_e2_2 : zt_eOK "java/lang/Integer" (195, 14, 4, 0, 7100) := ⟨_, rfl, (zt_in (j := 7) (k := 100) rfl rfl)⟩
set_option maxRecDepth 100000 in
theorem zt_e2_1 : zt_eOK "java/lang/Integer" (191, 14, 3, 0, 7098) := ⟨_, rfl, (zt_in (j := 7) (k := 98) rfl rfl)⟩
set_option maxRecDepth 100000 in
theorem zt_e2_0 : zt_eOK "java/lang/Integer" (1, 2, 2, 999, 7102) := ⟨"java/lang/Integer", (zt_in (j := 7) (k := 102) rfl rfl), Or.inr rfl, Or.inl rfl⟩
theorem zt_pl2_ok : ∀ e ∈ zt_pl2, zt_eOK "java/lang/Integer" e := List.forall_mem_cons.mpr ⟨zt_e2_0, List.forall_mem_cons.mpr ⟨zt_e2_1, List.forall_mem_cons.mpr ⟨zt_e2_2, List.forall_mem_cons.mpr ⟨zt_e2_3, List.forall_mem_cons.mpr ⟨zt_e2_4, List.forall_mem_cons.mpr ⟨zt_e2_5, fun _ h => absurd h List.not_mem_nil⟩⟩⟩⟩⟩⟩
set_option maxRecDepth 100000 in
theorem zt_lc2_ok : ∀ e ∈ zt_lc2, Cond.constantLong "java/lang/Integer" e.1 e.2.1 ∈ zt_good := fun _ h => absurd h List.not_mem_nil
set_option maxRecDepth 100000 in
theorem zt_e3_4 : zt_eOK "java/lang/Long" (273, 0, 3, 0, 8176) := ⟨_, "java/lang/Long", rfl, by decide, (zt_in (j := 8) (k := 176) rfl rfl), Or.inl rfl⟩
set_option maxRecDepth 100000 in
theorem zt_e3_3 : zt_eOK "java/lang/Long" (270, 8, 241, 0, 8175) := ⟨_, rfl, (zt_in (j := 8) (k := 175) rfl rfl)⟩
set_option maxRecDepth 100000 in
theorem zt_e3_2 : zt_eOK "java/lang/Long" (240, 8, 298, 0, 8172) := ⟨_, rfl, (zt_in (j := 8) (k := 172) rfl rfl)⟩
set_option maxRecDepth 100000 in
theorem zt_e3_1 : zt_eOK "java/lang/Long" (234, 14, 5, 0, 8168) := ⟨_, rfl, (zt_in (j := 8) (k := 168) rfl rfl)⟩
set_option maxRecDepth 100000 in
theorem zt_e3_0 : zt_eOK "java/lang/Long" (1, 2, 3, 999, 8170) := ⟨"java/lang/Long", (zt_in (j := 8) (k := 170) rfl rfl), Or.inr rfl, Or.inl rfl⟩
theorem zt_pl3_ok : ∀ e ∈ zt_pl3, zt_eOK "java/lang/Long" e := List.forall_mem_cons.mpr ⟨zt_e3_0, List.forall_mem_cons.mpr ⟨zt_e3_1, List.forall_mem_cons.mpr ⟨zt_e3_2, List.forall_mem_cons.mpr ⟨zt_e3_3, List.forall_mem_cons.mpr ⟨zt_e3_4, fun _ h => absurd h List.not_mem_nil⟩⟩⟩⟩⟩
set_option maxRecDepth 100000 in
theorem zt_lc3_ok : ∀ e ∈ zt_lc3, Cond.constantLong "java/lang/Long" e.1 e.2.1 ∈ zt_good := List.forall_mem_cons.mpr ⟨(zt_in (j := 3) (k := 14) rfl rfl), List.forall_mem_cons.mpr ⟨(zt_in (j := 3) (k := 15) rfl rfl), List.forall_mem_cons.mpr ⟨(zt_in (j := 3) (k := 16) rfl rfl), List.forall_mem_cons.mpr ⟨(zt_in (j := 8) (k := 166) rfl rfl), List.forall_mem_cons.mpr ⟨(zt_in (j := 8) (k := 167) rfl rfl), fun _ h => absurd h List.not_mem_nil⟩⟩⟩⟩⟩
set_option maxRecDepth 100000 in
theorem zt_e4_25 : zt_eOK "java/util/ArrayList" (203, 13, 0, 0, 9232) := ⟨", Size: ", zt_ch_in (j := 9) (List.mem_of_getElem? (i := 232) rfl), fun h => absurd h (by decide)⟩
set_option maxRecDepth 100000 in
theorem zt_e4_24 : zt_eOK "java/util/ArrayList" (201, 13, 0, 0, 9120) := ⟨"Index: ", zt_ch_in (j := 9) (List.mem_of_getElem? (i := 120) rfl), fun h => absurd h (by decide)⟩
set_option maxRecDepth 100000 in
theorem zt_e4_23 : zt_eOK "java/util/ArrayList" (198, 6, 326, 0, 9086) := ⟨_, rfl, (zt_in (j := 9) (k := 86) rfl rfl)⟩
set_option maxRecDepth 100000 in
theorem zt_e4_22 : zt_eOK "java/util/ArrayList" (187, 2, 19, 999, 9085) := ⟨"java/lang/IndexOutOfBoundsException", (zt_in (j := 9) (k := 85) rfl rfl), Or.inr rfl, Or.inl rfl⟩
set_option maxRecDepth 100000 in
theorem zt_e4_21 : zt_eOK "java/util/ArrayList" (144, 6, 244, 0, 7130) := ⟨_, rfl, (zt_in (j := 7) (k := 130) rfl rfl)⟩
set_option maxRecDepth 100000 in
theorem zt_e4_20 : zt_eOK "java/util/ArrayList" (135, 6, 325, 0, 9081) := ⟨_, rfl, (zt_in (j := 9) (k := 81) rfl rfl)⟩
set_option maxRecDepth 100000 in
theorem zt_e4_19 : zt_eOK "java/util/ArrayList" (131, 6, 226, 0, 6200) := ⟨_, rfl, (zt_in (j := 6) (k := 200) rfl rfl)⟩
set_option maxRecDepth 100000 in
theorem zt_e4_18 : zt_eOK "java/util/ArrayList" (129, 6, 227, 0, 6204) := ⟨_, rfl, (zt_in (j := 6) (k := 204) rfl rfl)⟩
set_option maxRecDepth 100000 in
theorem zt_e4_17 : zt_eOK "java/util/ArrayList" (123, 6, 224, 0, 6186) := ⟨_, rfl, (zt_in (j := 6) (k := 186) rfl rfl)⟩
set_option maxRecDepth 100000 in
theorem zt_e4_16 : zt_eOK "java/util/ArrayList" (118, 4, 223, 0, 6182) := ⟨_, rfl, (zt_in (j := 6) (k := 182) rfl rfl)⟩
set_option maxRecDepth 100000 in
theorem zt_e4_15 : zt_eOK "java/util/ArrayList" (112, 17, 0, 0, 7134) := (zt_in (j := 7) (k := 134) rfl rfl)
set_option maxRecDepth 100000 in
theorem zt_e4_14 : zt_eOK "java/util/ArrayList" (79, 16, 0, 0, 7021) := Or.inl ⟨rfl, (zt_in (j := 7) (k := 21) rfl rfl), (zt_in (j := 3) (k := 193) rfl rfl), (zt_in (j := 1) (k := 17) rfl rfl), (zt_in (j := 3) (k := 194) rfl rfl)⟩
set_option maxRecDepth 100000 in
theorem zt_e4_13 : zt_eOK "java/util/ArrayList" (73, 4, 229, 0, 6212) := ⟨_, rfl, (zt_in (j := 6) (k := 212) rfl rfl)⟩
set_option maxRecDepth 100000 in
theorem zt_e4_12 : zt_eOK "java/util/ArrayList" (69, 6, 228, 0, 6208) := ⟨_, rfl, (zt_in (j := 6) (k := 208) rfl rfl)⟩
set_option maxRecDepth 100000 in
theorem zt_e4_11 : zt_eOK "java/util/ArrayList" (66, 4, 231, 0, 6220) := ⟨_, rfl, (zt_in (j := 6) (k := 220) rfl rfl)⟩
set_option maxRecDepth 100000 in
theorem zt_e4_10 : zt_eOK "java/util/ArrayList" (63, 0, 4, 0, 6126) := ⟨_, "java/util/ArrayList", rfl, by decide, (zt_in (j := 6) (k := 126) rfl rfl), Or.inr (zt_in (j := 6) (k := 127) rfl rfl)⟩
set_option maxRecDepth 100000 in
theorem zt_e4_9 : zt_eOK "java/util/ArrayList" (48, 0, 4, 2, 6124) := ⟨_, "java/util/ArrayList", rfl, by decide, (zt_in (j := 6) (k := 124) rfl rfl), Or.inl rfl⟩
set_option maxRecDepth 100000 in
theorem zt_e4_8 : zt_eOK "java/util/ArrayList" (39, 14, 0, 0, 6121) := ⟨_, rfl, (zt_in (j := 6) (k := 121) rfl rfl)⟩
set_option maxRecDepth 100000 in
theorem zt_e4_7 : zt_eOK "java/util/ArrayList" (32, 6, 358, 0, 9233) := ⟨_, rfl, (zt_in (j := 9) (k := 233) rfl rfl)⟩
set_option maxRecDepth 100000 in
theorem zt_e4_6 : zt_eOK "java/util/ArrayList" (29, 6, 352, 0, 9207) := ⟨_, rfl, (zt_in (j := 9) (k := 207) rfl rfl)⟩
set_option maxRecDepth 100000 in
theorem zt_e4_5 : zt_eOK "java/util/ArrayList" (25, 6, 331, 0, 9121) := ⟨_, rfl, (zt_in (j := 9) (k := 121) rfl rfl)⟩
set_option maxRecDepth 100000 in
theorem zt_e4_4 : zt_eOK "java/util/ArrayList" (22, 8, 327, 0, 9092) := ⟨_, rfl, (zt_in (j := 9) (k := 92) rfl rfl)⟩
set_option maxRecDepth 100000 in
theorem zt_e4_3 : zt_eOK "java/util/ArrayList" (20, 2, 1, 999, 9090) := ⟨"java/lang/StringBuilder", (zt_in (j := 9) (k := 90) rfl rfl), Or.inr rfl, Or.inl rfl⟩
set_option maxRecDepth 100000 in
theorem zt_e4_2 : zt_eOK "java/util/ArrayList" (9, 0, 4, 1, 6123) := ⟨_, "java/util/ArrayList", rfl, by decide, (zt_in (j := 6) (k := 123) rfl rfl), Or.inl rfl⟩
set_option maxRecDepth 100000 in
theorem zt_e4_1 : zt_eOK "java/util/ArrayList" (7, 2, 999, 5, 7022) := ⟨"java/lang/Object", (zt_in (j := 7) (k := 22) rfl rfl), Or.inl rfl, Or.inr rfl⟩
set_option maxRecDepth 100000 in
theorem zt_e4_0 : zt_eOK "java/util/ArrayList" (1, 8, 217, 0, 6114) := ⟨_, rfl, (zt_in (j := 6) (k := 114) rfl rfl)⟩
theorem zt_pl4_ok : ∀ e ∈ zt_pl4, zt_eOK "java/util/ArrayList" e := List.forall_mem_cons.mpr ⟨zt_e4_0, List.forall_mem_cons.mpr ⟨zt_e4_1, List.forall_mem_cons.mpr ⟨zt_e4_2, List.forall_mem_cons.mpr ⟨zt_e4_3, List.forall_mem_cons.mpr ⟨zt_e4_4, List.forall_mem_cons.mpr ⟨zt_e4_5, List.forall_mem_cons.mpr ⟨zt_e4_6, List.forall_mem_cons.mpr ⟨zt_e4_7, List.forall_mem_cons.mpr ⟨zt_e4_8, List.forall_mem_cons.mpr ⟨zt_e4_9, List.forall_mem_cons.mpr ⟨zt_e4_10, List.forall_mem_cons.mpr ⟨zt_e4_11, List.forall_mem_cons.mpr ⟨zt_e4_12, List.forall_mem_cons.mpr ⟨zt_e4_13, List.forall_mem_cons.mpr ⟨zt_e4_14, List.forall_mem_cons.mpr ⟨zt_e4_15, List.forall_mem_cons.mpr ⟨zt_e4_16, List.forall_mem_cons.mpr ⟨zt_e4_17, List.forall_mem_cons.mpr ⟨zt_e4_18, List.forall_mem_cons.mpr ⟨zt_e4_19, List.forall_mem_cons.mpr ⟨zt_e4_20, List.forall_mem_cons.mpr ⟨zt_e4_21, List.forall_mem_cons.mpr ⟨zt_e4_22, List.forall_mem_cons.mpr ⟨zt_e4_23, List.forall_mem_cons.mpr ⟨zt_e4_24, List.forall_mem_cons.mpr ⟨zt_e4_25, fun _ h => absurd h List.not_mem_nil⟩⟩⟩⟩⟩⟩⟩⟩⟩⟩⟩⟩⟩⟩⟩⟩⟩⟩⟩⟩⟩⟩⟩⟩⟩⟩
set_option maxRecDepth 100000 in
theorem zt_lc4_ok : ∀ e ∈ zt_lc4, Cond.constantLong "java/util/ArrayList" e.1 e.2.1 ∈ zt_good := fun _ h => absurd h List.not_mem_nil
set_option maxRecDepth 100000 in
theorem zt_e5_33 : zt_eOK "ColumnVault$Checks" (128, 6, 208, 0, 6074) := ⟨_, rfl, (zt_in (j := 6) (k := 74) rfl rfl)⟩
set_option maxRecDepth 100000 in
theorem zt_e5_32 : zt_eOK "ColumnVault$Checks" (120, 6, 52, 0, 6071) := ⟨_, rfl, (zt_in (j := 6) (k := 71) rfl rfl)⟩
set_option maxRecDepth 100000 in
theorem zt_e5_31 : zt_eOK "ColumnVault$Checks" (117, 6, 168, 0, 6070) := ⟨_, rfl, (zt_in (j := 6) (k := 70) rfl rfl)⟩
set_option maxRecDepth 100000 in
theorem zt_e5_30 : zt_eOK "ColumnVault$Checks" (112, 1, 8, 0, 1164) := ⟨_, "ColumnVault", rfl, by decide, (zt_inN (j := 1) (k := 164) rfl rfl)⟩
set_option maxRecDepth 100000 in
theorem zt_e5_29 : zt_eOK "ColumnVault$Checks" (108, 6, 175, 0, 6064) := ⟨_, rfl, (zt_in (j := 6) (k := 64) rfl rfl)⟩
set_option maxRecDepth 100000 in
theorem zt_e5_28 : zt_eOK "ColumnVault$Checks" (105, 6, 206, 0, 6060) := ⟨_, rfl, (zt_in (j := 6) (k := 60) rfl rfl)⟩
set_option maxRecDepth 100000 in
theorem zt_e5_27 : zt_eOK "ColumnVault$Checks" (102, 6, 29, 0, 6059) := ⟨_, rfl, (zt_in (j := 6) (k := 59) rfl rfl)⟩
set_option maxRecDepth 100000 in
theorem zt_e5_26 : zt_eOK "ColumnVault$Checks" (98, 1, 13, 5, 1079) := ⟨_, "ColumnVault", rfl, by decide, (zt_inN (j := 1) (k := 79) rfl rfl)⟩
set_option maxRecDepth 100000 in
theorem zt_e5_25 : zt_eOK "ColumnVault$Checks" (92, 4, 49, 0, 6058) := ⟨_, rfl, (zt_in (j := 6) (k := 58) rfl rfl)⟩
set_option maxRecDepth 100000 in
theorem zt_e5_24 : zt_eOK "ColumnVault$Checks" (89, 6, 169, 0, 6057) := ⟨_, rfl, (zt_in (j := 6) (k := 57) rfl rfl)⟩
set_option maxRecDepth 100000 in
theorem zt_e5_23 : zt_eOK "ColumnVault$Checks" (86, 1, 8, 4, 1170) := ⟨_, "ColumnVault", rfl, by decide, (zt_inN (j := 1) (k := 170) rfl rfl)⟩
set_option maxRecDepth 100000 in
theorem zt_e5_22 : zt_eOK "ColumnVault$Checks" (82, 6, 161, 0, 6056) := ⟨_, rfl, (zt_in (j := 6) (k := 56) rfl rfl)⟩
set_option maxRecDepth 100000 in
theorem zt_e5_21 : zt_eOK "ColumnVault$Checks" (78, 5, 61, 0, 6049) := ⟨_, "ColumnVault", rfl, (zt_inN (j := 6) (k := 49) rfl rfl)⟩
set_option maxRecDepth 100000 in
theorem zt_e5_20 : zt_eOK "ColumnVault$Checks" (75, 6, 69, 0, 6048) := ⟨_, rfl, (zt_in (j := 6) (k := 48) rfl rfl)⟩
set_option maxRecDepth 100000 in
theorem zt_e5_19 : zt_eOK "ColumnVault$Checks" (71, 6, 37, 0, 6047) := ⟨_, rfl, (zt_in (j := 6) (k := 47) rfl rfl)⟩
set_option maxRecDepth 100000 in
theorem zt_e5_18 : zt_eOK "ColumnVault$Checks" (67, 6, 91, 0, 6051) := ⟨_, rfl, (zt_in (j := 6) (k := 51) rfl rfl)⟩
set_option maxRecDepth 100000 in
theorem zt_e5_17 : zt_eOK "ColumnVault$Checks" (63, 6, 182, 0, 6050) := ⟨_, rfl, (zt_in (j := 6) (k := 50) rfl rfl)⟩
set_option maxRecDepth 100000 in
theorem zt_e5_16 : zt_eOK "ColumnVault$Checks" (59, 6, 204, 0, 6043) := ⟨_, rfl, (zt_in (j := 6) (k := 43) rfl rfl)⟩
set_option maxRecDepth 100000 in
theorem zt_e5_15 : zt_eOK "ColumnVault$Checks" (55, 6, 63, 0, 6042) := ⟨_, rfl, (zt_in (j := 6) (k := 42) rfl rfl)⟩
set_option maxRecDepth 100000 in
theorem zt_e5_14 : zt_eOK "ColumnVault$Checks" (52, 1, 13, 4, 1073) := ⟨_, "ColumnVault", rfl, by decide, (zt_inN (j := 1) (k := 73) rfl rfl)⟩
set_option maxRecDepth 100000 in
theorem zt_e5_13 : zt_eOK "ColumnVault$Checks" (48, 6, 60, 0, 6041) := ⟨_, rfl, (zt_in (j := 6) (k := 41) rfl rfl)⟩
set_option maxRecDepth 100000 in
theorem zt_e5_12 : zt_eOK "ColumnVault$Checks" (44, 6, 17, 0, 6040) := ⟨_, rfl, (zt_in (j := 6) (k := 40) rfl rfl)⟩
set_option maxRecDepth 100000 in
theorem zt_e5_11 : zt_eOK "ColumnVault$Checks" (41, 6, 207, 0, 6065) := ⟨_, rfl, (zt_in (j := 6) (k := 65) rfl rfl)⟩
set_option maxRecDepth 100000 in
theorem zt_e5_10 : zt_eOK "ColumnVault$Checks" (37, 6, 205, 0, 6052) := ⟨_, rfl, (zt_in (j := 6) (k := 52) rfl rfl)⟩
set_option maxRecDepth 100000 in
theorem zt_e5_9 : zt_eOK "ColumnVault$Checks" (33, 6, 203, 0, 6036) := ⟨_, rfl, (zt_in (j := 6) (k := 36) rfl rfl)⟩
set_option maxRecDepth 100000 in
theorem zt_e5_8 : zt_eOK "ColumnVault$Checks" (29, 1, 13, 3, 1067) := ⟨_, "ColumnVault", rfl, by decide, (zt_inN (j := 1) (k := 67) rfl rfl)⟩
set_option maxRecDepth 100000 in
theorem zt_e5_7 : zt_eOK "ColumnVault$Checks" (25, 0, 5, 2, 1195) := ⟨_, "ColumnVault$Checks", rfl, by decide, (zt_in (j := 1) (k := 195) rfl rfl), Or.inl rfl⟩
set_option maxRecDepth 100000 in
theorem zt_e5_6 : zt_eOK "ColumnVault$Checks" (21, 0, 5, 1, 1194) := ⟨_, "ColumnVault$Checks", rfl, by decide, (zt_in (j := 1) (k := 194) rfl rfl), Or.inl rfl⟩
set_option maxRecDepth 100000 in
theorem zt_e5_5 : zt_eOK "ColumnVault$Checks" (20, 9, 7, 0, 1192) := ⟨_, "ColumnVault", rfl, (zt_inN (j := 1) (k := 192) rfl rfl)⟩
set_option maxRecDepth 100000 in
theorem zt_e5_4 : zt_eOK "ColumnVault$Checks" (18, 2, 8, 999, 1191) := ⟨"ColumnVault$Groups", (zt_in (j := 1) (k := 191) rfl rfl), Or.inr rfl, Or.inl rfl⟩
set_option maxRecDepth 100000 in
theorem zt_e5_3 : zt_eOK "ColumnVault$Checks" (12, 0, 5, 0, 1193) := ⟨_, "ColumnVault$Checks", rfl, by decide, (zt_in (j := 1) (k := 193) rfl rfl), Or.inl rfl⟩
set_option maxRecDepth 100000 in
theorem zt_e5_2 : zt_eOK "ColumnVault$Checks" (11, 9, 3, 0, 1190) := ⟨_, "ColumnVault", rfl, (zt_inN (j := 1) (k := 190) rfl rfl)⟩
set_option maxRecDepth 100000 in
theorem zt_e5_1 : zt_eOK "ColumnVault$Checks" (9, 2, 13, 0, 1189) := ⟨"ColumnVault$Sheet", (zt_in (j := 1) (k := 189) rfl rfl), Or.inr rfl, Or.inr rfl⟩
set_option maxRecDepth 100000 in
theorem zt_e5_0 : zt_eOK "ColumnVault$Checks" (3, 10, 0, 0, 1188) := (zt_in (j := 1) (k := 188) rfl rfl)
theorem zt_pl5_ok : ∀ e ∈ zt_pl5, zt_eOK "ColumnVault$Checks" e := List.forall_mem_cons.mpr ⟨zt_e5_0, List.forall_mem_cons.mpr ⟨zt_e5_1, List.forall_mem_cons.mpr ⟨zt_e5_2, List.forall_mem_cons.mpr ⟨zt_e5_3, List.forall_mem_cons.mpr ⟨zt_e5_4, List.forall_mem_cons.mpr ⟨zt_e5_5, List.forall_mem_cons.mpr ⟨zt_e5_6, List.forall_mem_cons.mpr ⟨zt_e5_7, List.forall_mem_cons.mpr ⟨zt_e5_8, List.forall_mem_cons.mpr ⟨zt_e5_9, List.forall_mem_cons.mpr ⟨zt_e5_10, List.forall_mem_cons.mpr ⟨zt_e5_11, List.forall_mem_cons.mpr ⟨zt_e5_12, List.forall_mem_cons.mpr ⟨zt_e5_13, List.forall_mem_cons.mpr ⟨zt_e5_14, List.forall_mem_cons.mpr ⟨zt_e5_15, List.forall_mem_cons.mpr ⟨zt_e5_16, List.forall_mem_cons.mpr ⟨zt_e5_17, List.forall_mem_cons.mpr ⟨zt_e5_18, List.forall_mem_cons.mpr ⟨zt_e5_19, List.forall_mem_cons.mpr ⟨zt_e5_20, List.forall_mem_cons.mpr ⟨zt_e5_21, List.forall_mem_cons.mpr ⟨zt_e5_22, List.forall_mem_cons.mpr ⟨zt_e5_23, List.forall_mem_cons.mpr ⟨zt_e5_24, List.forall_mem_cons.mpr ⟨zt_e5_25, List.forall_mem_cons.mpr ⟨zt_e5_26, List.forall_mem_cons.mpr ⟨zt_e5_27, List.forall_mem_cons.mpr ⟨zt_e5_28, List.forall_mem_cons.mpr ⟨zt_e5_29, List.forall_mem_cons.mpr ⟨zt_e5_30, List.forall_mem_cons.mpr ⟨zt_e5_31, List.forall_mem_cons.mpr ⟨zt_e5_32, List.forall_mem_cons.mpr ⟨zt_e5_33, fun _ h => absurd h List.not_mem_nil⟩⟩⟩⟩⟩⟩⟩⟩⟩⟩⟩⟩⟩⟩⟩⟩⟩⟩⟩⟩⟩⟩⟩⟩⟩⟩⟩⟩⟩⟩⟩⟩⟩⟩
set_option maxRecDepth 100000 in
theorem zt_lc5_ok : ∀ e ∈ zt_lc5, Cond.constantLong "ColumnVault$Checks" e.1 e.2.1 ∈ zt_good := List.forall_mem_cons.mpr ⟨(zt_in (j := 6) (k := 69) rfl rfl), List.forall_mem_cons.mpr ⟨(zt_in (j := 6) (k := 72) rfl rfl), List.forall_mem_cons.mpr ⟨(zt_in (j := 6) (k := 73) rfl rfl), fun _ h => absurd h List.not_mem_nil⟩⟩⟩
set_option maxRecDepth 100000 in
theorem zt_e6_32 : zt_eOK "ColumnVault$FilterReader" (137, 6, 52, 0, 4062) := ⟨_, rfl, (zt_in (j := 4) (k := 62) rfl rfl)⟩
set_option maxRecDepth 100000 in
theorem zt_e6_31 : zt_eOK "ColumnVault$FilterReader" (131, 5, 38, 0, 4056) := ⟨_, "ColumnVault", rfl, (zt_inN (j := 4) (k := 56) rfl rfl)⟩
set_option maxRecDepth 100000 in
theorem zt_e6_30 : zt_eOK "ColumnVault$FilterReader" (126, 6, 103, 0, 4051) := ⟨_, rfl, (zt_in (j := 4) (k := 51) rfl rfl)⟩
set_option maxRecDepth 100000 in
theorem zt_e6_29 : zt_eOK "ColumnVault$FilterReader" (122, 6, 102, 0, 4047) := ⟨_, rfl, (zt_in (j := 4) (k := 47) rfl rfl)⟩
set_option maxRecDepth 100000 in
theorem zt_e6_28 : zt_eOK "ColumnVault$FilterReader" (110, 6, 104, 0, 4057) := ⟨_, rfl, (zt_in (j := 4) (k := 57) rfl rfl)⟩
set_option maxRecDepth 100000 in
theorem zt_e6_27 : zt_eOK "ColumnVault$FilterReader" (106, 6, 101, 0, 4043) := ⟨_, rfl, (zt_in (j := 4) (k := 43) rfl rfl)⟩
set_option maxRecDepth 100000 in
theorem zt_e6_26 : zt_eOK "ColumnVault$FilterReader" (103, 6, 29, 0, 4042) := ⟨_, rfl, (zt_in (j := 4) (k := 42) rfl rfl)⟩
set_option maxRecDepth 100000 in
theorem zt_e6_25 : zt_eOK "ColumnVault$FilterReader" (100, 6, 100, 0, 4034) := ⟨_, rfl, (zt_in (j := 4) (k := 34) rfl rfl)⟩
set_option maxRecDepth 100000 in
theorem zt_e6_24 : zt_eOK "ColumnVault$FilterReader" (97, 6, 20, 0, 4033) := ⟨_, rfl, (zt_in (j := 4) (k := 33) rfl rfl)⟩
set_option maxRecDepth 100000 in
theorem zt_e6_23 : zt_eOK "ColumnVault$FilterReader" (93, 6, 99, 0, 4029) := ⟨_, rfl, (zt_in (j := 4) (k := 29) rfl rfl)⟩
set_option maxRecDepth 100000 in
theorem zt_e6_22 : zt_eOK "ColumnVault$FilterReader" (89, 6, 105, 0, 4064) := ⟨_, rfl, (zt_in (j := 4) (k := 64) rfl rfl)⟩
set_option maxRecDepth 100000 in
theorem zt_e6_21 : zt_eOK "ColumnVault$FilterReader" (85, 6, 98, 0, 4025) := ⟨_, rfl, (zt_in (j := 4) (k := 25) rfl rfl)⟩
set_option maxRecDepth 100000 in
theorem zt_e6_20 : zt_eOK "ColumnVault$FilterReader" (82, 6, 97, 0, 4021) := ⟨_, rfl, (zt_in (j := 4) (k := 21) rfl rfl)⟩
set_option maxRecDepth 100000 in
theorem zt_e6_19 : zt_eOK "ColumnVault$FilterReader" (79, 6, 92, 0, 4001) := ⟨_, rfl, (zt_in (j := 4) (k := 1) rfl rfl)⟩
set_option maxRecDepth 100000 in
theorem zt_e6_18 : zt_eOK "ColumnVault$FilterReader" (73, 6, 91, 0, 3237) := ⟨_, rfl, (zt_in (j := 3) (k := 237) rfl rfl)⟩
set_option maxRecDepth 100000 in
theorem zt_e6_17 : zt_eOK "ColumnVault$FilterReader" (69, 6, 93, 0, 4005) := ⟨_, rfl, (zt_in (j := 4) (k := 5) rfl rfl)⟩
set_option maxRecDepth 100000 in
theorem zt_e6_16 : zt_eOK "ColumnVault$FilterReader" (65, 6, 106, 0, 4069) := ⟨_, rfl, (zt_in (j := 4) (k := 69) rfl rfl)⟩
set_option maxRecDepth 100000 in
theorem zt_e6_15 : zt_eOK "ColumnVault$FilterReader" (62, 6, 90, 0, 3233) := ⟨_, rfl, (zt_in (j := 3) (k := 233) rfl rfl)⟩
set_option maxRecDepth 100000 in
theorem zt_e6_14 : zt_eOK "ColumnVault$FilterReader" (59, 8, 89, 0, 3201) := ⟨_, rfl, (zt_in (j := 3) (k := 201) rfl rfl)⟩
set_option maxRecDepth 100000 in
theorem zt_e6_13 : zt_eOK "ColumnVault$FilterReader" (57, 2, 11, 999, 3199) := ⟨"ColumnVault$Node", (zt_in (j := 3) (k := 199) rfl rfl), Or.inr rfl, Or.inl rfl⟩
set_option maxRecDepth 100000 in
theorem zt_e6_12 : zt_eOK "ColumnVault$FilterReader" (53, 6, 96, 0, 4017) := ⟨_, rfl, (zt_in (j := 4) (k := 17) rfl rfl)⟩
set_option maxRecDepth 100000 in
theorem zt_e6_11 : zt_eOK "ColumnVault$FilterReader" (50, 6, 95, 0, 4013) := ⟨_, rfl, (zt_in (j := 4) (k := 13) rfl rfl)⟩
set_option maxRecDepth 100000 in
theorem zt_e6_10 : zt_eOK "ColumnVault$FilterReader" (46, 6, 94, 0, 4009) := ⟨_, rfl, (zt_in (j := 4) (k := 9) rfl rfl)⟩
set_option maxRecDepth 100000 in
theorem zt_e6_9 : zt_eOK "ColumnVault$FilterReader" (42, 6, 88, 0, 3195) := ⟨_, rfl, (zt_in (j := 3) (k := 195) rfl rfl)⟩
set_option maxRecDepth 100000 in
theorem zt_e6_8 : zt_eOK "ColumnVault$FilterReader" (36, 6, 79, 0, 3155) := ⟨_, rfl, (zt_in (j := 3) (k := 155) rfl rfl)⟩
set_option maxRecDepth 100000 in
theorem zt_e6_7 : zt_eOK "ColumnVault$FilterReader" (32, 0, 6, 1, 3128) := ⟨_, "ColumnVault$FilterReader", rfl, by decide, (zt_in (j := 3) (k := 128) rfl rfl), Or.inl rfl⟩
set_option maxRecDepth 100000 in
theorem zt_e6_6 : zt_eOK "ColumnVault$FilterReader" (28, 0, 6, 0, 3127) := ⟨_, "ColumnVault$FilterReader", rfl, by decide, (zt_in (j := 3) (k := 127) rfl rfl), Or.inl rfl⟩
set_option maxRecDepth 100000 in
theorem zt_e6_5 : zt_eOK "ColumnVault$FilterReader" (25, 0, 6, 6, 3134) := ⟨_, "ColumnVault$FilterReader", rfl, by decide, (zt_in (j := 3) (k := 134) rfl rfl), Or.inl rfl⟩
set_option maxRecDepth 100000 in
theorem zt_e6_4 : zt_eOK "ColumnVault$FilterReader" (22, 0, 6, 5, 3132) := ⟨_, "ColumnVault$FilterReader", rfl, by decide, (zt_in (j := 3) (k := 132) rfl rfl), Or.inl rfl⟩
set_option maxRecDepth 100000 in
theorem zt_e6_3 : zt_eOK "ColumnVault$FilterReader" (19, 0, 6, 4, 3131) := ⟨_, "ColumnVault$FilterReader", rfl, by decide, (zt_in (j := 3) (k := 131) rfl rfl), Or.inl rfl⟩
set_option maxRecDepth 100000 in
theorem zt_e6_2 : zt_eOK "ColumnVault$FilterReader" (15, 0, 6, 3, 3130) := ⟨_, "ColumnVault$FilterReader", rfl, by decide, (zt_in (j := 3) (k := 130) rfl rfl), Or.inl rfl⟩
set_option maxRecDepth 100000 in
theorem zt_e6_1 : zt_eOK "ColumnVault$FilterReader" (9, 0, 6, 2, 3129) := ⟨_, "ColumnVault$FilterReader", rfl, by decide, (zt_in (j := 3) (k := 129) rfl rfl), Or.inl rfl⟩
set_option maxRecDepth 100000 in
theorem zt_e6_0 : zt_eOK "ColumnVault$FilterReader" (3, 10, 0, 0, 3126) := (zt_in (j := 3) (k := 126) rfl rfl)
theorem zt_pl6_ok : ∀ e ∈ zt_pl6, zt_eOK "ColumnVault$FilterReader" e := List.forall_mem_cons.mpr ⟨zt_e6_0, List.forall_mem_cons.mpr ⟨zt_e6_1, List.forall_mem_cons.mpr ⟨zt_e6_2, List.forall_mem_cons.mpr ⟨zt_e6_3, List.forall_mem_cons.mpr ⟨zt_e6_4, List.forall_mem_cons.mpr ⟨zt_e6_5, List.forall_mem_cons.mpr ⟨zt_e6_6, List.forall_mem_cons.mpr ⟨zt_e6_7, List.forall_mem_cons.mpr ⟨zt_e6_8, List.forall_mem_cons.mpr ⟨zt_e6_9, List.forall_mem_cons.mpr ⟨zt_e6_10, List.forall_mem_cons.mpr ⟨zt_e6_11, List.forall_mem_cons.mpr ⟨zt_e6_12, List.forall_mem_cons.mpr ⟨zt_e6_13, List.forall_mem_cons.mpr ⟨zt_e6_14, List.forall_mem_cons.mpr ⟨zt_e6_15, List.forall_mem_cons.mpr ⟨zt_e6_16, List.forall_mem_cons.mpr ⟨zt_e6_17, List.forall_mem_cons.mpr ⟨zt_e6_18, List.forall_mem_cons.mpr ⟨zt_e6_19, List.forall_mem_cons.mpr ⟨zt_e6_20, List.forall_mem_cons.mpr ⟨zt_e6_21, List.forall_mem_cons.mpr ⟨zt_e6_22, List.forall_mem_cons.mpr ⟨zt_e6_23, List.forall_mem_cons.mpr ⟨zt_e6_24, List.forall_mem_cons.mpr ⟨zt_e6_25, List.forall_mem_cons.mpr ⟨zt_e6_26, List.forall_mem_cons.mpr ⟨zt_e6_27, List.forall_mem_cons.mpr ⟨zt_e6_28, List.forall_mem_cons.mpr ⟨zt_e6_29, List.forall_mem_cons.mpr ⟨zt_e6_30, List.forall_mem_cons.mpr ⟨zt_e6_31, List.forall_mem_cons.mpr ⟨zt_e6_32, fun _ h => absurd h List.not_mem_nil⟩⟩⟩⟩⟩⟩⟩⟩⟩⟩⟩⟩⟩⟩⟩⟩⟩⟩⟩⟩⟩⟩⟩⟩⟩⟩⟩⟩⟩⟩⟩⟩⟩
set_option maxRecDepth 100000 in
theorem zt_lc6_ok : ∀ e ∈ zt_lc6, Cond.constantLong "ColumnVault$FilterReader" e.1 e.2.1 ∈ zt_good := List.forall_mem_cons.mpr ⟨(zt_in (j := 4) (k := 38) rfl rfl), List.forall_mem_cons.mpr ⟨(zt_in (j := 4) (k := 39) rfl rfl), List.forall_mem_cons.mpr ⟨(zt_in (j := 4) (k := 40) rfl rfl), List.forall_mem_cons.mpr ⟨(zt_in (j := 4) (k := 41) rfl rfl), List.forall_mem_cons.mpr ⟨(zt_in (j := 4) (k := 55) rfl rfl), List.forall_mem_cons.mpr ⟨(zt_in (j := 4) (k := 61) rfl rfl), List.forall_mem_cons.mpr ⟨(zt_in (j := 4) (k := 63) rfl rfl), fun _ h => absurd h List.not_mem_nil⟩⟩⟩⟩⟩⟩⟩
set_option maxRecDepth 100000 in
theorem zt_e7_5 : zt_eOK "ColumnVault$FilterText" (30, 6, 130, 0, 4165) := ⟨_, rfl, (zt_in (j := 4) (k := 165) rfl rfl)⟩
set_option maxRecDepth 100000 in
theorem zt_e7_4 : zt_eOK "ColumnVault$FilterText" (25, 6, 128, 0, 4155) := ⟨_, rfl, (zt_in (j := 4) (k := 155) rfl rfl)⟩
set_option maxRecDepth 100000 in
theorem zt_e7_3 : zt_eOK "ColumnVault$FilterText" (21, 6, 124, 0, 4139) := ⟨_, rfl, (zt_in (j := 4) (k := 139) rfl rfl)⟩
set_option maxRecDepth 100000 in
theorem zt_e7_2 : zt_eOK "ColumnVault$FilterText" (15, 0, 7, 1, 1111) := ⟨_, "ColumnVault$FilterText", rfl, by decide, (zt_in (j := 1) (k := 111) rfl rfl), Or.inl rfl⟩
set_option maxRecDepth 100000 in
theorem zt_e7_1 : zt_eOK "ColumnVault$FilterText" (9, 0, 7, 0, 1110) := ⟨_, "ColumnVault$FilterText", rfl, by decide, (zt_in (j := 1) (k := 110) rfl rfl), Or.inl rfl⟩
set_option maxRecDepth 100000 in
theorem zt_e7_0 : zt_eOK "ColumnVault$FilterText" (3, 10, 0, 0, 1109) := (zt_in (j := 1) (k := 109) rfl rfl)
theorem zt_pl7_ok : ∀ e ∈ zt_pl7, zt_eOK "ColumnVault$FilterText" e := List.forall_mem_cons.mpr ⟨zt_e7_0, List.forall_mem_cons.mpr ⟨zt_e7_1, List.forall_mem_cons.mpr ⟨zt_e7_2, List.forall_mem_cons.mpr ⟨zt_e7_3, List.forall_mem_cons.mpr ⟨zt_e7_4, List.forall_mem_cons.mpr ⟨zt_e7_5, fun _ h => absurd h List.not_mem_nil⟩⟩⟩⟩⟩⟩
set_option maxRecDepth 100000 in
theorem zt_lc7_ok : ∀ e ∈ zt_lc7, Cond.constantLong "ColumnVault$FilterText" e.1 e.2.1 ∈ zt_good := List.forall_mem_cons.mpr ⟨(zt_in (j := 4) (k := 138) rfl rfl), fun _ h => absurd h List.not_mem_nil⟩
set_option maxRecDepth 100000 in
theorem zt_e8_18 : zt_eOK "ColumnVault$Groups" (73, 5, 46, 0, 5119) := ⟨_, "ColumnVault", rfl, (zt_inN (j := 5) (k := 119) rfl rfl)⟩
set_option maxRecDepth 100000 in
theorem zt_e8_17 : zt_eOK "ColumnVault$Groups" (69, 6, 168, 0, 5114) := ⟨_, rfl, (zt_in (j := 5) (k := 114) rfl rfl)⟩
set_option maxRecDepth 100000 in
theorem zt_e8_16 : zt_eOK "ColumnVault$Groups" (65, 6, 29, 0, 5113) := ⟨_, rfl, (zt_in (j := 5) (k := 113) rfl rfl)⟩
set_option maxRecDepth 100000 in
theorem zt_e8_15 : zt_eOK "ColumnVault$Groups" (59, 6, 163, 0, 5093) := ⟨_, rfl, (zt_in (j := 5) (k := 93) rfl rfl)⟩
set_option maxRecDepth 100000 in
theorem zt_e8_14 : zt_eOK "ColumnVault$Groups" (55, 5, 61, 0, 5092) := ⟨_, "ColumnVault", rfl, (zt_inN (j := 5) (k := 92) rfl rfl)⟩
set_option maxRecDepth 100000 in
theorem zt_e8_13 : zt_eOK "ColumnVault$Groups" (51, 6, 37, 0, 5091) := ⟨_, rfl, (zt_in (j := 5) (k := 91) rfl rfl)⟩
set_option maxRecDepth 100000 in
theorem zt_e8_12 : zt_eOK "ColumnVault$Groups" (47, 6, 162, 0, 5087) := ⟨_, rfl, (zt_in (j := 5) (k := 87) rfl rfl)⟩
set_option maxRecDepth 100000 in
theorem zt_e8_11 : zt_eOK "ColumnVault$Groups" (43, 5, 72, 0, 5086) := ⟨_, "ColumnVault", rfl, (zt_inN (j := 5) (k := 86) rfl rfl)⟩
set_option maxRecDepth 100000 in
theorem zt_e8_10 : zt_eOK "ColumnVault$Groups" (39, 1, 13, 5, 1078) := ⟨_, "ColumnVault", rfl, by decide, (zt_inN (j := 1) (k := 78) rfl rfl)⟩
set_option maxRecDepth 100000 in
theorem zt_e8_9 : zt_eOK "ColumnVault$Groups" (36, 1, 13, 4, 1071) := ⟨_, "ColumnVault", rfl, by decide, (zt_inN (j := 1) (k := 71) rfl rfl)⟩
set_option maxRecDepth 100000 in
theorem zt_e8_8 : zt_eOK "ColumnVault$Groups" (32, 6, 17, 0, 5085) := ⟨_, rfl, (zt_in (j := 5) (k := 85) rfl rfl)⟩
set_option maxRecDepth 100000 in
theorem zt_e8_7 : zt_eOK "ColumnVault$Groups" (29, 0, 8, 4, 1169) := ⟨_, "ColumnVault$Groups", rfl, by decide, (zt_in (j := 1) (k := 169) rfl rfl), Or.inl rfl⟩
set_option maxRecDepth 100000 in
theorem zt_e8_6 : zt_eOK "ColumnVault$Groups" (25, 0, 8, 3, 1168) := ⟨_, "ColumnVault$Groups", rfl, by decide, (zt_in (j := 1) (k := 168) rfl rfl), Or.inl rfl⟩
set_option maxRecDepth 100000 in
theorem zt_e8_5 : zt_eOK "ColumnVault$Groups" (22, 0, 8, 2, 1167) := ⟨_, "ColumnVault$Groups", rfl, by decide, (zt_in (j := 1) (k := 167) rfl rfl), Or.inl rfl⟩
set_option maxRecDepth 100000 in
theorem zt_e8_4 : zt_eOK "ColumnVault$Groups" (18, 0, 8, 1, 1166) := ⟨_, "ColumnVault$Groups", rfl, by decide, (zt_in (j := 1) (k := 166) rfl rfl), Or.inl rfl⟩
set_option maxRecDepth 100000 in
theorem zt_e8_3 : zt_eOK "ColumnVault$Groups" (12, 0, 8, 0, 1163) := ⟨_, "ColumnVault$Groups", rfl, by decide, (zt_in (j := 1) (k := 163) rfl rfl), Or.inl rfl⟩
set_option maxRecDepth 100000 in
theorem zt_e8_2 : zt_eOK "ColumnVault$Groups" (11, 9, 3, 0, 1162) := ⟨_, "ColumnVault", rfl, (zt_inN (j := 1) (k := 162) rfl rfl)⟩
set_option maxRecDepth 100000 in
theorem zt_e8_1 : zt_eOK "ColumnVault$Groups" (9, 2, 13, 0, 1161) := ⟨"ColumnVault$Sheet", (zt_in (j := 1) (k := 161) rfl rfl), Or.inr rfl, Or.inr rfl⟩
set_option maxRecDepth 100000 in
theorem zt_e8_0 : zt_eOK "ColumnVault$Groups" (3, 10, 0, 0, 1160) := (zt_in (j := 1) (k := 160) rfl rfl)
theorem zt_pl8_ok : ∀ e ∈ zt_pl8, zt_eOK "ColumnVault$Groups" e := List.forall_mem_cons.mpr ⟨zt_e8_0, List.forall_mem_cons.mpr ⟨zt_e8_1, List.forall_mem_cons.mpr ⟨zt_e8_2, List.forall_mem_cons.mpr ⟨zt_e8_3, List.forall_mem_cons.mpr ⟨zt_e8_4, List.forall_mem_cons.mpr ⟨zt_e8_5, List.forall_mem_cons.mpr ⟨zt_e8_6, List.forall_mem_cons.mpr ⟨zt_e8_7, List.forall_mem_cons.mpr ⟨zt_e8_8, List.forall_mem_cons.mpr ⟨zt_e8_9, List.forall_mem_cons.mpr ⟨zt_e8_10, List.forall_mem_cons.mpr ⟨zt_e8_11, List.forall_mem_cons.mpr ⟨zt_e8_12, List.forall_mem_cons.mpr ⟨zt_e8_13, List.forall_mem_cons.mpr ⟨zt_e8_14, List.forall_mem_cons.mpr ⟨zt_e8_15, List.forall_mem_cons.mpr ⟨zt_e8_16, List.forall_mem_cons.mpr ⟨zt_e8_17, List.forall_mem_cons.mpr ⟨zt_e8_18, fun _ h => absurd h List.not_mem_nil⟩⟩⟩⟩⟩⟩⟩⟩⟩⟩⟩⟩⟩⟩⟩⟩⟩⟩⟩
set_option maxRecDepth 100000 in
theorem zt_lc8_ok : ∀ e ∈ zt_lc8, Cond.constantLong "ColumnVault$Groups" e.1 e.2.1 ∈ zt_good := List.forall_mem_cons.mpr ⟨(zt_in (j := 5) (k := 118) rfl rfl), fun _ h => absurd h List.not_mem_nil⟩
set_option maxRecDepth 100000 in
theorem zt_e9_6 : zt_eOK "ColumnVault$History" (26, 6, 17, 0, 2118) := ⟨_, rfl, (zt_in (j := 2) (k := 118) rfl rfl)⟩
set_option maxRecDepth 100000 in
theorem zt_e9_5 : zt_eOK "ColumnVault$History" (22, 6, 14, 0, 2117) := ⟨_, rfl, (zt_in (j := 2) (k := 117) rfl rfl)⟩
set_option maxRecDepth 100000 in
theorem zt_e9_4 : zt_eOK "ColumnVault$History" (21, 9, 3, 0, 1059) := ⟨_, "ColumnVault", rfl, (zt_inN (j := 1) (k := 59) rfl rfl)⟩
set_option maxRecDepth 100000 in
theorem zt_e9_3 : zt_eOK "ColumnVault$History" (17, 0, 9, 1, 1097) := ⟨_, "ColumnVault$History", rfl, by decide, (zt_in (j := 1) (k := 97) rfl rfl), Or.inl rfl⟩
set_option maxRecDepth 100000 in
theorem zt_e9_2 : zt_eOK "ColumnVault$History" (11, 0, 9, 0, 1096) := ⟨_, "ColumnVault$History", rfl, by decide, (zt_in (j := 1) (k := 96) rfl rfl), Or.inl rfl⟩
set_option maxRecDepth 100000 in
theorem zt_e9_1 : zt_eOK "ColumnVault$History" (9, 2, 13, 0, 1056) := ⟨"ColumnVault$Sheet", (zt_in (j := 1) (k := 56) rfl rfl), Or.inr rfl, Or.inr rfl⟩
set_option maxRecDepth 100000 in
theorem zt_e9_0 : zt_eOK "ColumnVault$History" (3, 10, 0, 0, 1055) := (zt_in (j := 1) (k := 55) rfl rfl)
theorem zt_pl9_ok : ∀ e ∈ zt_pl9, zt_eOK "ColumnVault$History" e := List.forall_mem_cons.mpr ⟨zt_e9_0, List.forall_mem_cons.mpr ⟨zt_e9_1, List.forall_mem_cons.mpr ⟨zt_e9_2, List.forall_mem_cons.mpr ⟨zt_e9_3, List.forall_mem_cons.mpr ⟨zt_e9_4, List.forall_mem_cons.mpr ⟨zt_e9_5, List.forall_mem_cons.mpr ⟨zt_e9_6, fun _ h => absurd h List.not_mem_nil⟩⟩⟩⟩⟩⟩⟩
set_option maxRecDepth 100000 in
theorem zt_lc9_ok : ∀ e ∈ zt_lc9, Cond.constantLong "ColumnVault$History" e.1 e.2.1 ∈ zt_good := fun _ h => absurd h List.not_mem_nil
set_option maxRecDepth 100000 in
theorem zt_e10_17 : zt_eOK "ColumnVault$JoinWays" (80, 16, 0, 0, 5057) := Or.inl ⟨rfl, (zt_in (j := 5) (k := 57) rfl rfl), (zt_in (j := 3) (k := 193) rfl rfl), (zt_in (j := 1) (k := 17) rfl rfl), (zt_in (j := 3) (k := 194) rfl rfl)⟩
set_option maxRecDepth 100000 in
theorem zt_e10_16 : zt_eOK "ColumnVault$JoinWays" (76, 6, 157, 0, 5064) := ⟨_, rfl, (zt_in (j := 5) (k := 64) rfl rfl)⟩
set_option maxRecDepth 100000 in
theorem zt_e10_15 : zt_eOK "ColumnVault$JoinWays" (72, 5, 72, 0, 5063) := ⟨_, "ColumnVault", rfl, (zt_inN (j := 5) (k := 63) rfl rfl)⟩
set_option maxRecDepth 100000 in
theorem zt_e10_14 : zt_eOK "ColumnVault$JoinWays" (67, 1, 13, 4, 1074) := ⟨_, "ColumnVault", rfl, by decide, (zt_inN (j := 1) (k := 74) rfl rfl)⟩
set_option maxRecDepth 100000 in
theorem zt_e10_13 : zt_eOK "ColumnVault$JoinWays" (63, 6, 155, 0, 5053) := ⟨_, rfl, (zt_in (j := 5) (k := 53) rfl rfl)⟩
set_option maxRecDepth 100000 in
theorem zt_e10_12 : zt_eOK "ColumnVault$JoinWays" (59, 6, 21, 0, 5052) := ⟨_, rfl, (zt_in (j := 5) (k := 52) rfl rfl)⟩
set_option maxRecDepth 100000 in
theorem zt_e10_11 : zt_eOK "ColumnVault$JoinWays" (55, 6, 37, 0, 5051) := ⟨_, rfl, (zt_in (j := 5) (k := 51) rfl rfl)⟩
set_option maxRecDepth 100000 in
theorem zt_e10_10 : zt_eOK "ColumnVault$JoinWays" (49, 4, 49, 0, 5073) := ⟨_, rfl, (zt_in (j := 5) (k := 73) rfl rfl)⟩
set_option maxRecDepth 100000 in
theorem zt_e10_9 : zt_eOK "ColumnVault$JoinWays" (43, 6, 158, 0, 5068) := ⟨_, rfl, (zt_in (j := 5) (k := 68) rfl rfl)⟩
set_option maxRecDepth 100000 in
theorem zt_e10_8 : zt_eOK "ColumnVault$JoinWays" (39, 6, 156, 0, 5058) := ⟨_, rfl, (zt_in (j := 5) (k := 58) rfl rfl)⟩
set_option maxRecDepth 100000 in
theorem zt_e10_7 : zt_eOK "ColumnVault$JoinWays" (35, 6, 154, 0, 5047) := ⟨_, rfl, (zt_in (j := 5) (k := 47) rfl rfl)⟩
set_option maxRecDepth 100000 in
theorem zt_e10_6 : zt_eOK "ColumnVault$JoinWays" (31, 6, 152, 0, 5036) := ⟨_, rfl, (zt_in (j := 5) (k := 36) rfl rfl)⟩
set_option maxRecDepth 100000 in
theorem zt_e10_5 : zt_eOK "ColumnVault$JoinWays" (25, 1, 13, 5, 1076) := ⟨_, "ColumnVault", rfl, by decide, (zt_inN (j := 1) (k := 76) rfl rfl)⟩
set_option maxRecDepth 100000 in
theorem zt_e10_4 : zt_eOK "ColumnVault$JoinWays" (22, 0, 10, 3, 5022) := ⟨_, "ColumnVault$JoinWays", rfl, by decide, (zt_in (j := 5) (k := 22) rfl rfl), Or.inl rfl⟩
set_option maxRecDepth 100000 in
theorem zt_e10_3 : zt_eOK "ColumnVault$JoinWays" (19, 0, 10, 2, 5021) := ⟨_, "ColumnVault$JoinWays", rfl, by decide, (zt_in (j := 5) (k := 21) rfl rfl), Or.inl rfl⟩
set_option maxRecDepth 100000 in
theorem zt_e10_2 : zt_eOK "ColumnVault$JoinWays" (15, 0, 10, 1, 5020) := ⟨_, "ColumnVault$JoinWays", rfl, by decide, (zt_in (j := 5) (k := 20) rfl rfl), Or.inl rfl⟩
set_option maxRecDepth 100000 in
theorem zt_e10_1 : zt_eOK "ColumnVault$JoinWays" (9, 0, 10, 0, 5019) := ⟨_, "ColumnVault$JoinWays", rfl, by decide, (zt_in (j := 5) (k := 19) rfl rfl), Or.inl rfl⟩
set_option maxRecDepth 100000 in
theorem zt_e10_0 : zt_eOK "ColumnVault$JoinWays" (3, 10, 0, 0, 5018) := (zt_in (j := 5) (k := 18) rfl rfl)
theorem zt_pl10_ok : ∀ e ∈ zt_pl10, zt_eOK "ColumnVault$JoinWays" e := List.forall_mem_cons.mpr ⟨zt_e10_0, List.forall_mem_cons.mpr ⟨zt_e10_1, List.forall_mem_cons.mpr ⟨zt_e10_2, List.forall_mem_cons.mpr ⟨zt_e10_3, List.forall_mem_cons.mpr ⟨zt_e10_4, List.forall_mem_cons.mpr ⟨zt_e10_5, List.forall_mem_cons.mpr ⟨zt_e10_6, List.forall_mem_cons.mpr ⟨zt_e10_7, List.forall_mem_cons.mpr ⟨zt_e10_8, List.forall_mem_cons.mpr ⟨zt_e10_9, List.forall_mem_cons.mpr ⟨zt_e10_10, List.forall_mem_cons.mpr ⟨zt_e10_11, List.forall_mem_cons.mpr ⟨zt_e10_12, List.forall_mem_cons.mpr ⟨zt_e10_13, List.forall_mem_cons.mpr ⟨zt_e10_14, List.forall_mem_cons.mpr ⟨zt_e10_15, List.forall_mem_cons.mpr ⟨zt_e10_16, List.forall_mem_cons.mpr ⟨zt_e10_17, fun _ h => absurd h List.not_mem_nil⟩⟩⟩⟩⟩⟩⟩⟩⟩⟩⟩⟩⟩⟩⟩⟩⟩⟩
set_option maxRecDepth 100000 in
theorem zt_lc10_ok : ∀ e ∈ zt_lc10, Cond.constantLong "ColumnVault$JoinWays" e.1 e.2.1 ∈ zt_good := List.forall_mem_cons.mpr ⟨(zt_in (j := 5) (k := 62) rfl rfl), List.forall_mem_cons.mpr ⟨(zt_in (j := 5) (k := 72) rfl rfl), fun _ h => absurd h List.not_mem_nil⟩⟩
set_option maxRecDepth 100000 in
theorem zt_e11_10 : zt_eOK "ColumnVault$Node" (45, 4, 49, 0, 4081) := ⟨_, rfl, (zt_in (j := 4) (k := 81) rfl rfl)⟩
set_option maxRecDepth 100000 in
theorem zt_e11_9 : zt_eOK "ColumnVault$Node" (41, 6, 108, 0, 4077) := ⟨_, rfl, (zt_in (j := 4) (k := 77) rfl rfl)⟩
set_option maxRecDepth 100000 in
theorem zt_e11_8 : zt_eOK "ColumnVault$Node" (37, 6, 107, 0, 4073) := ⟨_, rfl, (zt_in (j := 4) (k := 73) rfl rfl)⟩
set_option maxRecDepth 100000 in
theorem zt_e11_7 : zt_eOK "ColumnVault$Node" (31, 0, 11, 1, 3207) := ⟨_, "ColumnVault$Node", rfl, by decide, (zt_in (j := 3) (k := 207) rfl rfl), Or.inl rfl⟩
set_option maxRecDepth 100000 in
theorem zt_e11_6 : zt_eOK "ColumnVault$Node" (27, 0, 11, 0, 3205) := ⟨_, "ColumnVault$Node", rfl, by decide, (zt_in (j := 3) (k := 205) rfl rfl), Or.inl rfl⟩
set_option maxRecDepth 100000 in
theorem zt_e11_5 : zt_eOK "ColumnVault$Node" (24, 0, 11, 6, 3216) := ⟨_, "ColumnVault$Node", rfl, by decide, (zt_in (j := 3) (k := 216) rfl rfl), Or.inl rfl⟩
set_option maxRecDepth 100000 in
theorem zt_e11_4 : zt_eOK "ColumnVault$Node" (21, 0, 11, 5, 3214) := ⟨_, "ColumnVault$Node", rfl, by decide, (zt_in (j := 3) (k := 214) rfl rfl), Or.inl rfl⟩
set_option maxRecDepth 100000 in
theorem zt_e11_3 : zt_eOK "ColumnVault$Node" (18, 0, 11, 4, 3212) := ⟨_, "ColumnVault$Node", rfl, by decide, (zt_in (j := 3) (k := 212) rfl rfl), Or.inl rfl⟩
set_option maxRecDepth 100000 in
theorem zt_e11_2 : zt_eOK "ColumnVault$Node" (15, 0, 11, 3, 3211) := ⟨_, "ColumnVault$Node", rfl, by decide, (zt_in (j := 3) (k := 211) rfl rfl), Or.inl rfl⟩
set_option maxRecDepth 100000 in
theorem zt_e11_1 : zt_eOK "ColumnVault$Node" (9, 0, 11, 2, 3209) := ⟨_, "ColumnVault$Node", rfl, by decide, (zt_in (j := 3) (k := 209) rfl rfl), Or.inl rfl⟩
set_option maxRecDepth 100000 in
theorem zt_e11_0 : zt_eOK "ColumnVault$Node" (3, 10, 0, 0, 3204) := (zt_in (j := 3) (k := 204) rfl rfl)
theorem zt_pl11_ok : ∀ e ∈ zt_pl11, zt_eOK "ColumnVault$Node" e := List.forall_mem_cons.mpr ⟨zt_e11_0, List.forall_mem_cons.mpr ⟨zt_e11_1, List.forall_mem_cons.mpr ⟨zt_e11_2, List.forall_mem_cons.mpr ⟨zt_e11_3, List.forall_mem_cons.mpr ⟨zt_e11_4, List.forall_mem_cons.mpr ⟨zt_e11_5, List.forall_mem_cons.mpr ⟨zt_e11_6, List.forall_mem_cons.mpr ⟨zt_e11_7, List.forall_mem_cons.mpr ⟨zt_e11_8, List.forall_mem_cons.mpr ⟨zt_e11_9, List.forall_mem_cons.mpr ⟨zt_e11_10, fun _ h => absurd h List.not_mem_nil⟩⟩⟩⟩⟩⟩⟩⟩⟩⟩⟩
set_option maxRecDepth 100000 in
theorem zt_lc11_ok : ∀ e ∈ zt_lc11, Cond.constantLong "ColumnVault$Node" e.1 e.2.1 ∈ zt_good := List.forall_mem_cons.mpr ⟨(zt_in (j := 4) (k := 68) rfl rfl), fun _ h => absurd h List.not_mem_nil⟩
set_option maxRecDepth 100000 in
theorem zt_e12_10 : zt_eOK "ColumnVault$Pairs" (49, 6, 144, 0, 4230) := ⟨_, rfl, (zt_in (j := 4) (k := 230) rfl rfl)⟩
set_option maxRecDepth 100000 in
theorem zt_e12_9 : zt_eOK "ColumnVault$Pairs" (45, 6, 143, 0, 4226) := ⟨_, rfl, (zt_in (j := 4) (k := 226) rfl rfl)⟩
set_option maxRecDepth 100000 in
theorem zt_e12_8 : zt_eOK "ColumnVault$Pairs" (41, 6, 51, 0, 4225) := ⟨_, rfl, (zt_in (j := 4) (k := 225) rfl rfl)⟩
set_option maxRecDepth 100000 in
theorem zt_e12_7 : zt_eOK "ColumnVault$Pairs" (35, 6, 37, 0, 4223) := ⟨_, rfl, (zt_in (j := 4) (k := 223) rfl rfl)⟩
set_option maxRecDepth 100000 in
theorem zt_e12_6 : zt_eOK "ColumnVault$Pairs" (31, 5, 72, 0, 4222) := ⟨_, "ColumnVault", rfl, (zt_inN (j := 4) (k := 222) rfl rfl)⟩
set_option maxRecDepth 100000 in
theorem zt_e12_5 : zt_eOK "ColumnVault$Pairs" (27, 1, 13, 5, 1077) := ⟨_, "ColumnVault", rfl, by decide, (zt_inN (j := 1) (k := 77) rfl rfl)⟩
set_option maxRecDepth 100000 in
theorem zt_e12_4 : zt_eOK "ColumnVault$Pairs" (22, 1, 13, 4, 1070) := ⟨_, "ColumnVault", rfl, by decide, (zt_inN (j := 1) (k := 70) rfl rfl)⟩
set_option maxRecDepth 100000 in
theorem zt_e12_3 : zt_eOK "ColumnVault$Pairs" (18, 0, 12, 2, 1146) := ⟨_, "ColumnVault$Pairs", rfl, by decide, (zt_in (j := 1) (k := 146) rfl rfl), Or.inl rfl⟩
set_option maxRecDepth 100000 in
theorem zt_e12_2 : zt_eOK "ColumnVault$Pairs" (15, 0, 12, 1, 1145) := ⟨_, "ColumnVault$Pairs", rfl, by decide, (zt_in (j := 1) (k := 145) rfl rfl), Or.inl rfl⟩
set_option maxRecDepth 100000 in
theorem zt_e12_1 : zt_eOK "ColumnVault$Pairs" (9, 0, 12, 0, 1144) := ⟨_, "ColumnVault$Pairs", rfl, by decide, (zt_in (j := 1) (k := 144) rfl rfl), Or.inl rfl⟩
set_option maxRecDepth 100000 in
theorem zt_e12_0 : zt_eOK "ColumnVault$Pairs" (3, 10, 0, 0, 1143) := (zt_in (j := 1) (k := 143) rfl rfl)
theorem zt_pl12_ok : ∀ e ∈ zt_pl12, zt_eOK "ColumnVault$Pairs" e := List.forall_mem_cons.mpr ⟨zt_e12_0, List.forall_mem_cons.mpr ⟨zt_e12_1, List.forall_mem_cons.mpr ⟨zt_e12_2, List.forall_mem_cons.mpr ⟨zt_e12_3, List.forall_mem_cons.mpr ⟨zt_e12_4, List.forall_mem_cons.mpr ⟨zt_e12_5, List.forall_mem_cons.mpr ⟨zt_e12_6, List.forall_mem_cons.mpr ⟨zt_e12_7, List.forall_mem_cons.mpr ⟨zt_e12_8, List.forall_mem_cons.mpr ⟨zt_e12_9, List.forall_mem_cons.mpr ⟨zt_e12_10, fun _ h => absurd h List.not_mem_nil⟩⟩⟩⟩⟩⟩⟩⟩⟩⟩⟩
set_option maxRecDepth 100000 in
theorem zt_lc12_ok : ∀ e ∈ zt_lc12, Cond.constantLong "ColumnVault$Pairs" e.1 e.2.1 ∈ zt_good := List.forall_mem_cons.mpr ⟨(zt_in (j := 4) (k := 224) rfl rfl), fun _ h => absurd h List.not_mem_nil⟩
set_option maxRecDepth 100000 in
theorem zt_e13_24 : zt_eOK "ColumnVault$Sheet" (110, 6, 198, 0, 6023) := ⟨_, rfl, (zt_in (j := 6) (k := 23) rfl rfl)⟩
set_option maxRecDepth 100000 in
theorem zt_e13_23 : zt_eOK "ColumnVault$Sheet" (106, 6, 196, 0, 6007) := ⟨_, rfl, (zt_in (j := 6) (k := 7) rfl rfl)⟩
set_option maxRecDepth 100000 in
theorem zt_e13_22 : zt_eOK "ColumnVault$Sheet" (102, 6, 197, 0, 6011) := ⟨_, rfl, (zt_in (j := 6) (k := 11) rfl rfl)⟩
set_option maxRecDepth 100000 in
theorem zt_e13_21 : zt_eOK "ColumnVault$Sheet" (98, 6, 153, 0, 5040) := ⟨_, rfl, (zt_in (j := 5) (k := 40) rfl rfl)⟩
set_option maxRecDepth 100000 in
theorem zt_e13_20 : zt_eOK "ColumnVault$Sheet" (94, 6, 52, 0, 3025) := ⟨_, rfl, (zt_in (j := 3) (k := 25) rfl rfl)⟩
set_option maxRecDepth 100000 in
theorem zt_e13_19 : zt_eOK "ColumnVault$Sheet" (86, 5, 72, 0, 5046) := ⟨_, "ColumnVault", rfl, (zt_inN (j := 5) (k := 46) rfl rfl)⟩
set_option maxRecDepth 100000 in
theorem zt_e13_18 : zt_eOK "ColumnVault$Sheet" (82, 5, 61, 0, 3061) := ⟨_, "ColumnVault", rfl, (zt_inN (j := 3) (k := 61) rfl rfl)⟩
set_option maxRecDepth 100000 in
theorem zt_e13_17 : zt_eOK "ColumnVault$Sheet" (79, 6, 63, 0, 3068) := ⟨_, rfl, (zt_in (j := 3) (k := 68) rfl rfl)⟩
set_option maxRecDepth 100000 in
theorem zt_e13_16 : zt_eOK "ColumnVault$Sheet" (73, 6, 42, 0, 2224) := ⟨_, rfl, (zt_in (j := 2) (k := 224) rfl rfl)⟩
set_option maxRecDepth 100000 in
theorem zt_e13_15 : zt_eOK "ColumnVault$Sheet" (69, 6, 19, 0, 2130) := ⟨_, rfl, (zt_in (j := 2) (k := 130) rfl rfl)⟩
set_option maxRecDepth 100000 in
theorem zt_e13_14 : zt_eOK "ColumnVault$Sheet" (63, 4, 49, 0, 3029) := ⟨_, rfl, (zt_in (j := 3) (k := 29) rfl rfl)⟩
set_option maxRecDepth 100000 in
theorem zt_e13_13 : zt_eOK "ColumnVault$Sheet" (60, 6, 51, 0, 3021) := ⟨_, rfl, (zt_in (j := 3) (k := 21) rfl rfl)⟩
set_option maxRecDepth 100000 in
theorem zt_e13_12 : zt_eOK "ColumnVault$Sheet" (56, 5, 46, 0, 3001) := ⟨_, "ColumnVault", rfl, (zt_inN (j := 3) (k := 1) rfl rfl)⟩
set_option maxRecDepth 100000 in
theorem zt_e13_11 : zt_eOK "ColumnVault$Sheet" (52, 6, 37, 0, 2223) := ⟨_, rfl, (zt_in (j := 2) (k := 223) rfl rfl)⟩
set_option maxRecDepth 100000 in
theorem zt_e13_10 : zt_eOK "ColumnVault$Sheet" (49, 6, 21, 0, 2138) := ⟨_, rfl, (zt_in (j := 2) (k := 138) rfl rfl)⟩
set_option maxRecDepth 100000 in
theorem zt_e13_9 : zt_eOK "ColumnVault$Sheet" (43, 6, 20, 0, 2134) := ⟨_, rfl, (zt_in (j := 2) (k := 134) rfl rfl)⟩
set_option maxRecDepth 100000 in
theorem zt_e13_8 : zt_eOK "ColumnVault$Sheet" (39, 6, 29, 0, 3000) := ⟨_, rfl, (zt_in (j := 3) (k := 0) rfl rfl)⟩
set_option maxRecDepth 100000 in
theorem zt_e13_7 : zt_eOK "ColumnVault$Sheet" (33, 17, 0, 0, 2122) := (zt_in (j := 2) (k := 122) rfl rfl)
set_option maxRecDepth 100000 in
theorem zt_e13_6 : zt_eOK "ColumnVault$Sheet" (29, 0, 13, 5, 1075) := ⟨_, "ColumnVault$Sheet", rfl, by decide, (zt_in (j := 1) (k := 75) rfl rfl), Or.inl rfl⟩
set_option maxRecDepth 100000 in
theorem zt_e13_5 : zt_eOK "ColumnVault$Sheet" (26, 0, 13, 4, 1069) := ⟨_, "ColumnVault$Sheet", rfl, by decide, (zt_in (j := 1) (k := 69) rfl rfl), Or.inl rfl⟩
set_option maxRecDepth 100000 in
theorem zt_e13_4 : zt_eOK "ColumnVault$Sheet" (22, 0, 13, 3, 1066) := ⟨_, "ColumnVault$Sheet", rfl, by decide, (zt_in (j := 1) (k := 66) rfl rfl), Or.inl rfl⟩
set_option maxRecDepth 100000 in
theorem zt_e13_3 : zt_eOK "ColumnVault$Sheet" (19, 0, 13, 2, 1065) := ⟨_, "ColumnVault$Sheet", rfl, by decide, (zt_in (j := 1) (k := 65) rfl rfl), Or.inl rfl⟩
set_option maxRecDepth 100000 in
theorem zt_e13_2 : zt_eOK "ColumnVault$Sheet" (15, 0, 13, 1, 1064) := ⟨_, "ColumnVault$Sheet", rfl, by decide, (zt_in (j := 1) (k := 64) rfl rfl), Or.inl rfl⟩
set_option maxRecDepth 100000 in
theorem zt_e13_1 : zt_eOK "ColumnVault$Sheet" (9, 0, 13, 0, 1063) := ⟨_, "ColumnVault$Sheet", rfl, by decide, (zt_in (j := 1) (k := 63) rfl rfl), Or.inl rfl⟩
set_option maxRecDepth 100000 in
theorem zt_e13_0 : zt_eOK "ColumnVault$Sheet" (3, 10, 0, 0, 1062) := (zt_in (j := 1) (k := 62) rfl rfl)
theorem zt_pl13_ok : ∀ e ∈ zt_pl13, zt_eOK "ColumnVault$Sheet" e := List.forall_mem_cons.mpr ⟨zt_e13_0, List.forall_mem_cons.mpr ⟨zt_e13_1, List.forall_mem_cons.mpr ⟨zt_e13_2, List.forall_mem_cons.mpr ⟨zt_e13_3, List.forall_mem_cons.mpr ⟨zt_e13_4, List.forall_mem_cons.mpr ⟨zt_e13_5, List.forall_mem_cons.mpr ⟨zt_e13_6, List.forall_mem_cons.mpr ⟨zt_e13_7, List.forall_mem_cons.mpr ⟨zt_e13_8, List.forall_mem_cons.mpr ⟨zt_e13_9, List.forall_mem_cons.mpr ⟨zt_e13_10, List.forall_mem_cons.mpr ⟨zt_e13_11, List.forall_mem_cons.mpr ⟨zt_e13_12, List.forall_mem_cons.mpr ⟨zt_e13_13, List.forall_mem_cons.mpr ⟨zt_e13_14, List.forall_mem_cons.mpr ⟨zt_e13_15, List.forall_mem_cons.mpr ⟨zt_e13_16, List.forall_mem_cons.mpr ⟨zt_e13_17, List.forall_mem_cons.mpr ⟨zt_e13_18, List.forall_mem_cons.mpr ⟨zt_e13_19, List.forall_mem_cons.mpr ⟨zt_e13_20, List.forall_mem_cons.mpr ⟨zt_e13_21, List.forall_mem_cons.mpr ⟨zt_e13_22, List.forall_mem_cons.mpr ⟨zt_e13_23, List.forall_mem_cons.mpr ⟨zt_e13_24, fun _ h => absurd h List.not_mem_nil⟩⟩⟩⟩⟩⟩⟩⟩⟩⟩⟩⟩⟩⟩⟩⟩⟩⟩⟩⟩⟩⟩⟩⟩⟩
set_option maxRecDepth 100000 in
theorem zt_lc13_ok : ∀ e ∈ zt_lc13, Cond.constantLong "ColumnVault$Sheet" e.1 e.2.1 ∈ zt_good := List.forall_mem_cons.mpr ⟨(zt_in (j := 2) (k := 129) rfl rfl), List.forall_mem_cons.mpr ⟨(zt_in (j := 2) (k := 228) rfl rfl), List.forall_mem_cons.mpr ⟨(zt_in (j := 5) (k := 44) rfl rfl), List.forall_mem_cons.mpr ⟨(zt_in (j := 5) (k := 45) rfl rfl), fun _ h => absurd h List.not_mem_nil⟩⟩⟩⟩
set_option maxRecDepth 100000 in
theorem zt_e14_14 : zt_eOK "ColumnVault$Tokens" (72, 16, 0, 2, 3188) := Or.inr (Or.inr ⟨rfl, (zt_in (j := 3) (k := 188) rfl rfl), (zt_in (j := 3) (k := 189) rfl rfl), (zt_in (j := 1) (k := 17) rfl rfl), (zt_in (j := 3) (k := 190) rfl rfl)⟩)
set_option maxRecDepth 100000 in
theorem zt_e14_13 : zt_eOK "ColumnVault$Tokens" (61, 6, 85, 0, 3181) := ⟨_, rfl, (zt_in (j := 3) (k := 181) rfl rfl)⟩
set_option maxRecDepth 100000 in
theorem zt_e14_12 : zt_eOK "ColumnVault$Tokens" (58, 6, 84, 0, 3176) := ⟨_, rfl, (zt_in (j := 3) (k := 176) rfl rfl)⟩
set_option maxRecDepth 100000 in
theorem zt_e14_11 : zt_eOK "ColumnVault$Tokens" (55, 5, 36, 0, 3175) := ⟨_, "ColumnVault", rfl, (zt_inN (j := 3) (k := 175) rfl rfl)⟩
set_option maxRecDepth 100000 in
theorem zt_e14_10 : zt_eOK "ColumnVault$Tokens" (51, 5, 83, 0, 3172) := ⟨_, "ColumnVault", rfl, (zt_inN (j := 3) (k := 172) rfl rfl)⟩
set_option maxRecDepth 100000 in
theorem zt_e14_9 : zt_eOK "ColumnVault$Tokens" (47, 6, 82, 0, 3168) := ⟨_, rfl, (zt_in (j := 3) (k := 168) rfl rfl)⟩
set_option maxRecDepth 100000 in
theorem zt_e14_8 : zt_eOK "ColumnVault$Tokens" (39, 16, 0, 0, 3192) := Or.inl ⟨rfl, (zt_in (j := 3) (k := 192) rfl rfl), (zt_in (j := 3) (k := 193) rfl rfl), (zt_in (j := 1) (k := 17) rfl rfl), (zt_in (j := 3) (k := 194) rfl rfl)⟩
set_option maxRecDepth 100000 in
theorem zt_e14_7 : zt_eOK "ColumnVault$Tokens" (35, 6, 81, 0, 3163) := ⟨_, rfl, (zt_in (j := 3) (k := 163) rfl rfl)⟩
set_option maxRecDepth 100000 in
theorem zt_e14_6 : zt_eOK "ColumnVault$Tokens" (31, 6, 80, 0, 3159) := ⟨_, rfl, (zt_in (j := 3) (k := 159) rfl rfl)⟩
set_option maxRecDepth 100000 in
theorem zt_e14_5 : zt_eOK "ColumnVault$Tokens" (26, 1, 7, 1, 1112) := ⟨_, "ColumnVault", rfl, by decide, (zt_inN (j := 1) (k := 112) rfl rfl)⟩
set_option maxRecDepth 100000 in
theorem zt_e14_4 : zt_eOK "ColumnVault$Tokens" (22, 0, 14, 3, 1128) := ⟨_, "ColumnVault$Tokens", rfl, by decide, (zt_in (j := 1) (k := 128) rfl rfl), Or.inl rfl⟩
set_option maxRecDepth 100000 in
theorem zt_e14_3 : zt_eOK "ColumnVault$Tokens" (18, 0, 14, 2, 1127) := ⟨_, "ColumnVault$Tokens", rfl, by decide, (zt_in (j := 1) (k := 127) rfl rfl), Or.inl rfl⟩
set_option maxRecDepth 100000 in
theorem zt_e14_2 : zt_eOK "ColumnVault$Tokens" (15, 0, 14, 1, 1126) := ⟨_, "ColumnVault$Tokens", rfl, by decide, (zt_in (j := 1) (k := 126) rfl rfl), Or.inl rfl⟩
set_option maxRecDepth 100000 in
theorem zt_e14_1 : zt_eOK "ColumnVault$Tokens" (9, 0, 14, 0, 1125) := ⟨_, "ColumnVault$Tokens", rfl, by decide, (zt_in (j := 1) (k := 125) rfl rfl), Or.inl rfl⟩
set_option maxRecDepth 100000 in
theorem zt_e14_0 : zt_eOK "ColumnVault$Tokens" (3, 10, 0, 0, 1124) := (zt_in (j := 1) (k := 124) rfl rfl)
theorem zt_pl14_ok : ∀ e ∈ zt_pl14, zt_eOK "ColumnVault$Tokens" e := List.forall_mem_cons.mpr ⟨zt_e14_0, List.forall_mem_cons.mpr ⟨zt_e14_1, List.forall_mem_cons.mpr ⟨zt_e14_2, List.forall_mem_cons.mpr ⟨zt_e14_3, List.forall_mem_cons.mpr ⟨zt_e14_4, List.forall_mem_cons.mpr ⟨zt_e14_5, List.forall_mem_cons.mpr ⟨zt_e14_6, List.forall_mem_cons.mpr ⟨zt_e14_7, List.forall_mem_cons.mpr ⟨zt_e14_8, List.forall_mem_cons.mpr ⟨zt_e14_9, List.forall_mem_cons.mpr ⟨zt_e14_10, List.forall_mem_cons.mpr ⟨zt_e14_11, List.forall_mem_cons.mpr ⟨zt_e14_12, List.forall_mem_cons.mpr ⟨zt_e14_13, List.forall_mem_cons.mpr ⟨zt_e14_14, fun _ h => absurd h List.not_mem_nil⟩⟩⟩⟩⟩⟩⟩⟩⟩⟩⟩⟩⟩⟩⟩
set_option maxRecDepth 100000 in
theorem zt_lc14_ok : ∀ e ∈ zt_lc14, Cond.constantLong "ColumnVault$Tokens" e.1 e.2.1 ∈ zt_good := List.forall_mem_cons.mpr ⟨(zt_in (j := 3) (k := 167) rfl rfl), List.forall_mem_cons.mpr ⟨(zt_in (j := 3) (k := 180) rfl rfl), List.forall_mem_cons.mpr ⟨(zt_in (j := 3) (k := 185) rfl rfl), List.forall_mem_cons.mpr ⟨(zt_in (j := 3) (k := 186) rfl rfl), List.forall_mem_cons.mpr ⟨(zt_in (j := 3) (k := 187) rfl rfl), List.forall_mem_cons.mpr ⟨(zt_in (j := 3) (k := 191) rfl rfl), fun _ h => absurd h List.not_mem_nil⟩⟩⟩⟩⟩⟩
set_option maxRecDepth 100000 in
theorem zt_e15_136 : zt_eOK "ColumnVault" (423, 1, 11, 4, 3213) := ⟨_, "ColumnVault", rfl, by decide, (zt_inN (j := 3) (k := 213) rfl rfl)⟩
set_option maxRecDepth 100000 in
theorem zt_e15_135 : zt_eOK "ColumnVault" (420, 1, 11, 6, 3217) := ⟨_, "ColumnVault", rfl, by decide, (zt_inN (j := 3) (k := 217) rfl rfl)⟩
set_option maxRecDepth 100000 in
theorem zt_e15_134 : zt_eOK "ColumnVault" (417, 1, 11, 2, 3210) := ⟨_, "ColumnVault", rfl, by decide, (zt_inN (j := 3) (k := 210) rfl rfl)⟩
set_option maxRecDepth 100000 in
theorem zt_e15_133 : zt_eOK "ColumnVault" (413, 1, 11, 5, 3215) := ⟨_, "ColumnVault", rfl, by decide, (zt_inN (j := 3) (k := 215) rfl rfl)⟩
set_option maxRecDepth 100000 in
theorem zt_e15_132 : zt_eOK "ColumnVault" (410, 1, 11, 0, 3206) := ⟨_, "ColumnVault", rfl, by decide, (zt_inN (j := 3) (k := 206) rfl rfl)⟩
set_option maxRecDepth 100000 in
theorem zt_e15_131 : zt_eOK "ColumnVault" (408, 13, 0, 0, 5164) := ⟨"no values", zt_ch_in (j := 5) (List.mem_of_getElem? (i := 164) rfl), fun h => absurd h (by decide)⟩
set_option maxRecDepth 100000 in
theorem zt_e15_130 : zt_eOK "ColumnVault" (404, 6, 176, 0, 5151) := ⟨_, rfl, (zt_in (j := 5) (k := 151) rfl rfl)⟩
set_option maxRecDepth 100000 in
theorem zt_e15_129 : zt_eOK "ColumnVault" (400, 6, 152, 0, 5150) := ⟨_, rfl, (zt_in (j := 5) (k := 150) rfl rfl)⟩
set_option maxRecDepth 100000 in
theorem zt_e15_128 : zt_eOK "ColumnVault" (398, 13, 0, 0, 5144) := ⟨"no such total", zt_ch_in (j := 5) (List.mem_of_getElem? (i := 144) rfl), fun h => absurd h (by decide)⟩
set_option maxRecDepth 100000 in
theorem zt_e15_127 : zt_eOK "ColumnVault" (395, 4, 36, 0, 2201) := ⟨_, rfl, (zt_in (j := 2) (k := 201) rfl rfl)⟩
set_option maxRecDepth 100000 in
theorem zt_e15_126 : zt_eOK "ColumnVault" (387, 13, 0, 0, 4216) := ⟨"columns of different kinds", zt_ch_in (j := 4) (List.mem_of_getElem? (i := 216) rfl), fun h => absurd h (by decide)⟩
set_option maxRecDepth 100000 in
theorem zt_e15_125 : zt_eOK "ColumnVault" (385, 13, 0, 0, 5188) := ⟨"a column of texts", zt_ch_in (j := 5) (List.mem_of_getElem? (i := 188) rfl), fun h => absurd h (by decide)⟩
set_option maxRecDepth 100000 in
theorem zt_e15_124 : zt_eOK "ColumnVault" (383, 13, 0, 0, 2204) := ⟨"no value of this kind", zt_ch_in (j := 2) (List.mem_of_getElem? (i := 204) rfl), fun h => absurd h (by decide)⟩
set_option maxRecDepth 100000 in
theorem zt_e15_123 : zt_eOK "ColumnVault" (380, 4, 35, 0, 2197) := ⟨_, rfl, (zt_in (j := 2) (k := 197) rfl rfl)⟩
set_option maxRecDepth 100000 in
theorem zt_e15_122 : zt_eOK "ColumnVault" (378, 13, 0, 0, 3082) := ⟨"no such place", zt_ch_in (j := 3) (List.mem_of_getElem? (i := 82) rfl), fun h => absurd h (by decide)⟩
set_option maxRecDepth 100000 in
theorem zt_e15_121 : zt_eOK "ColumnVault" (376, 13, 0, 0, 2192) := ⟨"no such row", zt_ch_in (j := 2) (List.mem_of_getElem? (i := 192) rfl), fun h => absurd h (by decide)⟩
set_option maxRecDepth 100000 in
theorem zt_e15_120 : zt_eOK "ColumnVault" (373, 6, 21, 0, 2191) := ⟨_, rfl, (zt_in (j := 2) (k := 191) rfl rfl)⟩
set_option maxRecDepth 100000 in
theorem zt_e15_119 : zt_eOK "ColumnVault" (371, 13, 0, 0, 2169) := ⟨"no such column", zt_ch_in (j := 2) (List.mem_of_getElem? (i := 169) rfl), fun h => absurd h (by decide)⟩
set_option maxRecDepth 100000 in
theorem zt_e15_118 : zt_eOK "ColumnVault" (368, 6, 20, 0, 2168) := ⟨_, rfl, (zt_in (j := 2) (k := 168) rfl rfl)⟩
set_option maxRecDepth 100000 in
theorem zt_e15_117 : zt_eOK "ColumnVault" (366, 13, 0, 0, 5108) := ⟨"no such group", zt_ch_in (j := 5) (List.mem_of_getElem? (i := 108) rfl), fun h => absurd h (by decide)⟩
set_option maxRecDepth 100000 in
theorem zt_e15_116 : zt_eOK "ColumnVault" (364, 13, 0, 0, 4082) := ⟨"the text has an error", zt_ch_in (j := 4) (List.mem_of_getElem? (i := 82) rfl), fun h => absurd h (by decide)⟩
set_option maxRecDepth 100000 in
theorem zt_e15_115 : zt_eOK "ColumnVault" (361, 8, 77, 0, 3123) := ⟨_, rfl, (zt_in (j := 3) (k := 123) rfl rfl)⟩
set_option maxRecDepth 100000 in
theorem zt_e15_114 : zt_eOK "ColumnVault" (359, 13, 0, 0, 2050) := ⟨"no such table", zt_ch_in (j := 2) (List.mem_of_getElem? (i := 50) rfl), fun h => absurd h (by decide)⟩
set_option maxRecDepth 100000 in
theorem zt_e15_113 : zt_eOK "ColumnVault" (356, 6, 14, 0, 2004) := ⟨_, rfl, (zt_in (j := 2) (k := 4) rfl rfl)⟩
set_option maxRecDepth 100000 in
theorem zt_e15_112 : zt_eOK "ColumnVault" (353, 6, 153, 0, 5145) := ⟨_, rfl, (zt_in (j := 5) (k := 145) rfl rfl)⟩
set_option maxRecDepth 100000 in
theorem zt_e15_111 : zt_eOK "ColumnVault" (350, 6, 202, 0, 6032) := ⟨_, rfl, (zt_in (j := 6) (k := 32) rfl rfl)⟩
set_option maxRecDepth 100000 in
theorem zt_e15_110 : zt_eOK "ColumnVault" (348, 13, 0, 0, 6024) := ⟨"no such comparison", zt_ch_in (j := 6) (List.mem_of_getElem? (i := 24) rfl), fun h => absurd h (by decide)⟩
set_option maxRecDepth 100000 in
theorem zt_e15_109 : zt_eOK "ColumnVault" (345, 6, 199, 0, 6019) := ⟨_, rfl, (zt_in (j := 6) (k := 19) rfl rfl)⟩
set_option maxRecDepth 100000 in
theorem zt_e15_108 : zt_eOK "ColumnVault" (342, 6, 198, 0, 6015) := ⟨_, rfl, (zt_in (j := 6) (k := 15) rfl rfl)⟩
set_option maxRecDepth 100000 in
theorem zt_e15_107 : zt_eOK "ColumnVault" (339, 6, 195, 0, 6003) := ⟨_, rfl, (zt_in (j := 6) (k := 3) rfl rfl)⟩
set_option maxRecDepth 100000 in
theorem zt_e15_106 : zt_eOK "ColumnVault" (337, 13, 0, 0, 6002) := ⟨"the columns are not of the same kinds", zt_ch_in (j := 6) (List.mem_of_getElem? (i := 2) rfl), fun h => absurd h (by decide)⟩
set_option maxRecDepth 100000 in
theorem zt_e15_105 : zt_eOK "ColumnVault" (333, 6, 194, 0, 5238) := ⟨_, rfl, (zt_in (j := 5) (k := 238) rfl rfl)⟩
set_option maxRecDepth 100000 in
theorem zt_e15_104 : zt_eOK "ColumnVault" (330, 4, 46, 0, 5230) := ⟨_, rfl, (zt_in (j := 5) (k := 230) rfl rfl)⟩
set_option maxRecDepth 100000 in
theorem zt_e15_103 : zt_eOK "ColumnVault" (328, 13, 0, 0, 5229) := ⟨"no value on that side", zt_ch_in (j := 5) (List.mem_of_getElem? (i := 229) rfl), fun h => absurd h (by decide)⟩
set_option maxRecDepth 100000 in
theorem zt_e15_102 : zt_eOK "ColumnVault" (324, 6, 191, 0, 5225) := ⟨_, rfl, (zt_in (j := 5) (k := 225) rfl rfl)⟩
set_option maxRecDepth 100000 in
theorem zt_e15_101 : zt_eOK "ColumnVault" (320, 6, 52, 0, 5203) := ⟨_, rfl, (zt_in (j := 5) (k := 203) rfl rfl)⟩
set_option maxRecDepth 100000 in
theorem zt_e15_100 : zt_eOK "ColumnVault" (315, 6, 51, 0, 5201) := ⟨_, rfl, (zt_in (j := 5) (k := 201) rfl rfl)⟩
set_option maxRecDepth 100000 in
theorem zt_e15_99 : zt_eOK "ColumnVault" (312, 13, 0, 0, 5200) := ⟨"the value is missing", zt_ch_in (j := 5) (List.mem_of_getElem? (i := 200) rfl), fun h => absurd h (by decide)⟩
set_option maxRecDepth 100000 in
theorem zt_e15_98 : zt_eOK "ColumnVault" (310, 2, 22, 999, 5155) := ⟨"java/util/NoSuchElementException", (zt_in (j := 5) (k := 155) rfl rfl), Or.inr rfl, Or.inl rfl⟩
set_option maxRecDepth 100000 in
theorem zt_e15_97 : zt_eOK "ColumnVault" (307, 6, 175, 0, 5146) := ⟨_, rfl, (zt_in (j := 5) (k := 146) rfl rfl)⟩
set_option maxRecDepth 100000 in
theorem zt_e15_96 : zt_eOK "ColumnVault" (304, 6, 182, 0, 5189) := ⟨_, rfl, (zt_in (j := 5) (k := 189) rfl rfl)⟩
set_option maxRecDepth 100000 in
theorem zt_e15_95 : zt_eOK "ColumnVault" (301, 4, 181, 0, 5185) := ⟨_, rfl, (zt_in (j := 5) (k := 185) rfl rfl)⟩
set_option maxRecDepth 100000 in
theorem zt_e15_94 : zt_eOK "ColumnVault" (298, 4, 28, 0, 2165) := ⟨_, rfl, (zt_in (j := 2) (k := 165) rfl rfl)⟩
set_option maxRecDepth 100000 in
theorem zt_e15_93 : zt_eOK "ColumnVault" (294, 4, 174, 0, 5141) := ⟨_, rfl, (zt_in (j := 5) (k := 141) rfl rfl)⟩
set_option maxRecDepth 100000 in
theorem zt_e15_92 : zt_eOK "ColumnVault" (292, 13, 0, 0, 5132) := ⟨"nothing known of that", zt_ch_in (j := 5) (List.mem_of_getElem? (i := 132) rfl), fun h => absurd h (by decide)⟩
set_option maxRecDepth 100000 in
theorem zt_e15_91 : zt_eOK "ColumnVault" (289, 6, 171, 0, 5128) := ⟨_, rfl, (zt_in (j := 5) (k := 128) rfl rfl)⟩
set_option maxRecDepth 100000 in
theorem zt_e15_90 : zt_eOK "ColumnVault" (286, 6, 170, 0, 5124) := ⟨_, rfl, (zt_in (j := 5) (k := 124) rfl rfl)⟩
set_option maxRecDepth 100000 in
theorem zt_e15_89 : zt_eOK "ColumnVault" (282, 1, 8, 0, 1165) := ⟨_, "ColumnVault", rfl, by decide, (zt_inN (j := 1) (k := 165) rfl rfl)⟩
set_option maxRecDepth 100000 in
theorem zt_e15_88 : zt_eOK "ColumnVault" (279, 6, 169, 0, 5120) := ⟨_, rfl, (zt_in (j := 5) (k := 120) rfl rfl)⟩
set_option maxRecDepth 100000 in
theorem zt_e15_87 : zt_eOK "ColumnVault" (275, 6, 167, 0, 5109) := ⟨_, rfl, (zt_in (j := 5) (k := 109) rfl rfl)⟩
set_option maxRecDepth 100000 in
theorem zt_e15_86 : zt_eOK "ColumnVault" (272, 6, 166, 0, 5104) := ⟨_, rfl, (zt_in (j := 5) (k := 104) rfl rfl)⟩
set_option maxRecDepth 100000 in
theorem zt_e15_85 : zt_eOK "ColumnVault" (271, 1, 8, 4, 1171) := ⟨_, "ColumnVault", rfl, by decide, (zt_inN (j := 1) (k := 171) rfl rfl)⟩
set_option maxRecDepth 100000 in
theorem zt_e15_84 : zt_eOK "ColumnVault" (269, 6, 161, 0, 5081) := ⟨_, rfl, (zt_in (j := 5) (k := 81) rfl rfl)⟩
set_option maxRecDepth 100000 in
theorem zt_e15_83 : zt_eOK "ColumnVault" (266, 6, 151, 0, 5032) := ⟨_, rfl, (zt_in (j := 5) (k := 32) rfl rfl)⟩
set_option maxRecDepth 100000 in
theorem zt_e15_82 : zt_eOK "ColumnVault" (263, 8, 150, 0, 5015) := ⟨_, rfl, (zt_in (j := 5) (k := 15) rfl rfl)⟩
set_option maxRecDepth 100000 in
theorem zt_e15_81 : zt_eOK "ColumnVault" (261, 2, 10, 999, 5013) := ⟨"ColumnVault$JoinWays", (zt_in (j := 5) (k := 13) rfl rfl), Or.inr rfl, Or.inl rfl⟩
set_option maxRecDepth 100000 in
theorem zt_e15_80 : zt_eOK "ColumnVault" (257, 6, 147, 0, 5002) := ⟨_, rfl, (zt_in (j := 5) (k := 2) rfl rfl)⟩
set_option maxRecDepth 100000 in
theorem zt_e15_79 : zt_eOK "ColumnVault" (255, 13, 0, 0, 5001) := ⟨"no such pair", zt_ch_in (j := 5) (List.mem_of_getElem? (i := 1) rfl), fun h => absurd h (by decide)⟩
set_option maxRecDepth 100000 in
theorem zt_e15_78 : zt_eOK "ColumnVault" (252, 1, 12, 2, 1147) := ⟨_, "ColumnVault", rfl, by decide, (zt_inN (j := 1) (k := 147) rfl rfl)⟩
set_option maxRecDepth 100000 in
theorem zt_e15_77 : zt_eOK "ColumnVault" (248, 6, 142, 0, 4218) := ⟨_, rfl, (zt_in (j := 4) (k := 218) rfl rfl)⟩
set_option maxRecDepth 100000 in
theorem zt_e15_76 : zt_eOK "ColumnVault" (246, 13, 0, 0, 4217) := ⟨"no such join", zt_ch_in (j := 4) (List.mem_of_getElem? (i := 217) rfl), fun h => absurd h (by decide)⟩
set_option maxRecDepth 100000 in
theorem zt_e15_75 : zt_eOK "ColumnVault" (242, 4, 141, 0, 4213) := ⟨_, rfl, (zt_in (j := 4) (k := 213) rfl rfl)⟩
set_option maxRecDepth 100000 in
theorem zt_e15_74 : zt_eOK "ColumnVault" (240, 13, 0, 0, 4205) := ⟨"no such example", zt_ch_in (j := 4) (List.mem_of_getElem? (i := 205) rfl), fun h => absurd h (by decide)⟩
set_option maxRecDepth 100000 in
theorem zt_e15_73 : zt_eOK "ColumnVault" (238, 13, 604, 1, 4204) := ⟨"!(#0 missing) & (#0 > 2 | #0 < -2) & #0 to -9 9", zt_ch_in (j := 4) (List.mem_of_getElem? (i := 204) rfl), fun _ => List.mem_of_getElem? (i := 2) rfl⟩
set_option maxRecDepth 100000 in
theorem zt_e15_72 : zt_eOK "ColumnVault" (236, 13, 602, 1, 4203) := ⟨"#0 to -3 3 | #0 in 7 9 11 & !#0 = 9", zt_ch_in (j := 4) (List.mem_of_getElem? (i := 203) rfl), fun _ => List.mem_of_getElem? (i := 1) rfl⟩
set_option maxRecDepth 100000 in
theorem zt_e15_71 : zt_eOK "ColumnVault" (233, 6, 127, 0, 4151) := ⟨_, rfl, (zt_in (j := 4) (k := 151) rfl rfl)⟩
set_option maxRecDepth 100000 in
theorem zt_e15_70 : zt_eOK "ColumnVault" (231, 13, 600, 1, 4150) := ⟨"#0 < 5 & !(#1 = b | #1 missing)", zt_ch_in (j := 4) (List.mem_of_getElem? (i := 150) rfl), fun _ => List.mem_of_getElem? (i := 0) rfl⟩
set_option maxRecDepth 100000 in
theorem zt_e15_69 : zt_eOK "ColumnVault" (227, 6, 123, 0, 4134) := ⟨_, rfl, (zt_in (j := 4) (k := 134) rfl rfl)⟩
set_option maxRecDepth 100000 in
theorem zt_e15_68 : zt_eOK "ColumnVault" (225, 13, 0, 0, 4133) := ⟨"the text would be too long", zt_ch_in (j := 4) (List.mem_of_getElem? (i := 133) rfl), fun h => absurd h (by decide)⟩
set_option maxRecDepth 100000 in
theorem zt_e15_67 : zt_eOK "ColumnVault" (222, 4, 122, 0, 4130) := ⟨_, rfl, (zt_in (j := 4) (k := 130) rfl rfl)⟩
set_option maxRecDepth 100000 in
theorem zt_e15_66 : zt_eOK "ColumnVault" (219, 1, 7, 1, 1113) := ⟨_, "ColumnVault", rfl, by decide, (zt_inN (j := 1) (k := 113) rfl rfl)⟩
set_option maxRecDepth 100000 in
theorem zt_e15_65 : zt_eOK "ColumnVault" (216, 1, 6, 6, 3135) := ⟨_, "ColumnVault", rfl, by decide, (zt_inN (j := 3) (k := 135) rfl rfl)⟩
set_option maxRecDepth 100000 in
theorem zt_e15_64 : zt_eOK "ColumnVault" (213, 1, 6, 5, 3133) := ⟨_, "ColumnVault", rfl, by decide, (zt_inN (j := 3) (k := 133) rfl rfl)⟩
set_option maxRecDepth 100000 in
theorem zt_e15_63 : zt_eOK "ColumnVault" (208, 2, 6, 999, 3121) := ⟨"ColumnVault$FilterReader", (zt_in (j := 3) (k := 121) rfl rfl), Or.inr rfl, Or.inl rfl⟩
set_option maxRecDepth 100000 in
theorem zt_e15_62 : zt_eOK "ColumnVault" (207, 6, 78, 0, 3151) := ⟨_, rfl, (zt_in (j := 3) (k := 151) rfl rfl)⟩
set_option maxRecDepth 100000 in
theorem zt_e15_61 : zt_eOK "ColumnVault" (203, 6, 76, 0, 3117) := ⟨_, rfl, (zt_in (j := 3) (k := 117) rfl rfl)⟩
set_option maxRecDepth 100000 in
theorem zt_e15_60 : zt_eOK "ColumnVault" (199, 4, 115, 0, 4106) := ⟨_, rfl, (zt_in (j := 4) (k := 106) rfl rfl)⟩
set_option maxRecDepth 100000 in
theorem zt_e15_59 : zt_eOK "ColumnVault" (195, 6, 91, 0, 4091) := ⟨_, rfl, (zt_in (j := 4) (k := 91) rfl rfl)⟩
set_option maxRecDepth 100000 in
theorem zt_e15_58 : zt_eOK "ColumnVault" (188, 1, 11, 1, 3208) := ⟨_, "ColumnVault", rfl, by decide, (zt_inN (j := 3) (k := 208) rfl rfl)⟩
set_option maxRecDepth 100000 in
theorem zt_e15_57 : zt_eOK "ColumnVault" (184, 6, 75, 0, 3113) := ⟨_, rfl, (zt_in (j := 3) (k := 113) rfl rfl)⟩
set_option maxRecDepth 100000 in
theorem zt_e15_56 : zt_eOK "ColumnVault" (182, 13, 0, 0, 3112) := ⟨"no such way to choose", zt_ch_in (j := 3) (List.mem_of_getElem? (i := 112) rfl), fun h => absurd h (by decide)⟩
set_option maxRecDepth 100000 in
theorem zt_e15_55 : zt_eOK "ColumnVault" (178, 4, 72, 0, 3102) := ⟨_, rfl, (zt_in (j := 3) (k := 102) rfl rfl)⟩
set_option maxRecDepth 100000 in
theorem zt_e15_54 : zt_eOK "ColumnVault" (175, 6, 69, 0, 3091) := ⟨_, rfl, (zt_in (j := 3) (k := 91) rfl rfl)⟩
set_option maxRecDepth 100000 in
theorem zt_e15_53 : zt_eOK "ColumnVault" (172, 6, 63, 0, 3083) := ⟨_, rfl, (zt_in (j := 3) (k := 83) rfl rfl)⟩
set_option maxRecDepth 100000 in
theorem zt_e15_52 : zt_eOK "ColumnVault" (169, 4, 66, 0, 3079) := ⟨_, rfl, (zt_in (j := 3) (k := 79) rfl rfl)⟩
set_option maxRecDepth 100000 in
theorem zt_e15_51 : zt_eOK "ColumnVault" (165, 6, 62, 0, 3064) := ⟨_, rfl, (zt_in (j := 3) (k := 64) rfl rfl)⟩
set_option maxRecDepth 100000 in
theorem zt_e15_50 : zt_eOK "ColumnVault" (161, 6, 60, 0, 3057) := ⟨_, rfl, (zt_in (j := 3) (k := 57) rfl rfl)⟩
set_option maxRecDepth 100000 in
theorem zt_e15_49 : zt_eOK "ColumnVault" (158, 6, 16, 0, 2113) := ⟨_, rfl, (zt_in (j := 2) (k := 113) rfl rfl)⟩
set_option maxRecDepth 100000 in
theorem zt_e15_48 : zt_eOK "ColumnVault" (155, 13, 0, 0, 3049) := ⟨"no such version", zt_ch_in (j := 3) (List.mem_of_getElem? (i := 49) rfl), fun h => absurd h (by decide)⟩
set_option maxRecDepth 100000 in
theorem zt_e15_47 : zt_eOK "ColumnVault" (153, 2, 19, 999, 2008) := ⟨"java/lang/IndexOutOfBoundsException", (zt_in (j := 2) (k := 8) rfl rfl), Or.inr rfl, Or.inl rfl⟩
set_option maxRecDepth 100000 in
theorem zt_e15_46 : zt_eOK "ColumnVault" (149, 6, 57, 0, 3045) := ⟨_, rfl, (zt_in (j := 3) (k := 45) rfl rfl)⟩
set_option maxRecDepth 100000 in
theorem zt_e15_45 : zt_eOK "ColumnVault" (146, 1, 9, 1, 1098) := ⟨_, "ColumnVault", rfl, by decide, (zt_inN (j := 1) (k := 98) rfl rfl)⟩
set_option maxRecDepth 100000 in
theorem zt_e15_44 : zt_eOK "ColumnVault" (144, 13, 0, 0, 3030) := ⟨"no such size", zt_ch_in (j := 3) (List.mem_of_getElem? (i := 30) rfl), fun h => absurd h (by decide)⟩
set_option maxRecDepth 100000 in
theorem zt_e15_43 : zt_eOK "ColumnVault" (141, 6, 50, 0, 3017) := ⟨_, rfl, (zt_in (j := 3) (k := 17) rfl rfl)⟩
set_option maxRecDepth 100000 in
theorem zt_e15_42 : zt_eOK "ColumnVault" (137, 4, 49, 0, 3011) := ⟨_, rfl, (zt_in (j := 3) (k := 11) rfl rfl)⟩
set_option maxRecDepth 100000 in
theorem zt_e15_41 : zt_eOK "ColumnVault" (133, 1, 13, 5, 1080) := ⟨_, "ColumnVault", rfl, by decide, (zt_inN (j := 1) (k := 80) rfl rfl)⟩
set_option maxRecDepth 100000 in
theorem zt_e15_40 : zt_eOK "ColumnVault" (130, 6, 45, 0, 2236) := ⟨_, rfl, (zt_in (j := 2) (k := 236) rfl rfl)⟩
set_option maxRecDepth 100000 in
theorem zt_e15_39 : zt_eOK "ColumnVault" (126, 6, 41, 0, 2219) := ⟨_, rfl, (zt_in (j := 2) (k := 219) rfl rfl)⟩
set_option maxRecDepth 100000 in
theorem zt_e15_38 : zt_eOK "ColumnVault" (122, 4, 38, 0, 2209) := ⟨_, rfl, (zt_in (j := 2) (k := 209) rfl rfl)⟩
set_option maxRecDepth 100000 in
theorem zt_e15_37 : zt_eOK "ColumnVault" (118, 6, 37, 0, 2205) := ⟨_, rfl, (zt_in (j := 2) (k := 205) rfl rfl)⟩
set_option maxRecDepth 100000 in
theorem zt_e15_36 : zt_eOK "ColumnVault" (114, 4, 34, 0, 2194) := ⟨_, rfl, (zt_in (j := 2) (k := 194) rfl rfl)⟩
set_option maxRecDepth 100000 in
theorem zt_e15_35 : zt_eOK "ColumnVault" (108, 4, 33, 0, 2188) := ⟨_, rfl, (zt_in (j := 2) (k := 188) rfl rfl)⟩
set_option maxRecDepth 100000 in
theorem zt_e15_34 : zt_eOK "ColumnVault" (104, 6, 19, 0, 2180) := ⟨_, rfl, (zt_in (j := 2) (k := 180) rfl rfl)⟩
set_option maxRecDepth 100000 in
theorem zt_e15_33 : zt_eOK "ColumnVault" (102, 13, 0, 0, 2179) := ⟨"no such numbers", zt_ch_in (j := 2) (List.mem_of_getElem? (i := 179) rfl), fun h => absurd h (by decide)⟩
set_option maxRecDepth 100000 in
theorem zt_e15_32 : zt_eOK "ColumnVault" (98, 4, 30, 0, 2174) := ⟨_, rfl, (zt_in (j := 2) (k := 174) rfl rfl)⟩
set_option maxRecDepth 100000 in
theorem zt_e15_31 : zt_eOK "ColumnVault" (95, 6, 29, 0, 2170) := ⟨_, rfl, (zt_in (j := 2) (k := 170) rfl rfl)⟩
set_option maxRecDepth 100000 in
theorem zt_e15_30 : zt_eOK "ColumnVault" (91, 6, 27, 0, 2161) := ⟨_, rfl, (zt_in (j := 2) (k := 161) rfl rfl)⟩
set_option maxRecDepth 100000 in
theorem zt_e15_29 : zt_eOK "ColumnVault" (87, 6, 24, 0, 2150) := ⟨_, rfl, (zt_in (j := 2) (k := 150) rfl rfl)⟩
set_option maxRecDepth 100000 in
theorem zt_e15_28 : zt_eOK "ColumnVault" (85, 13, 0, 0, 2149) := ⟨"too many rows", zt_ch_in (j := 2) (List.mem_of_getElem? (i := 149) rfl), fun h => absurd h (by decide)⟩
set_option maxRecDepth 100000 in
theorem zt_e15_27 : zt_eOK "ColumnVault" (82, 1, 13, 4, 1072) := ⟨_, "ColumnVault", rfl, by decide, (zt_inN (j := 1) (k := 72) rfl rfl)⟩
set_option maxRecDepth 100000 in
theorem zt_e15_26 : zt_eOK "ColumnVault" (78, 6, 18, 0, 2125) := ⟨_, rfl, (zt_in (j := 2) (k := 125) rfl rfl)⟩
set_option maxRecDepth 100000 in
theorem zt_e15_25 : zt_eOK "ColumnVault" (75, 6, 15, 0, 2109) := ⟨_, rfl, (zt_in (j := 2) (k := 109) rfl rfl)⟩
set_option maxRecDepth 100000 in
theorem zt_e15_24 : zt_eOK "ColumnVault" (72, 13, 0, 0, 2102) := ⟨"too many columns", zt_ch_in (j := 2) (List.mem_of_getElem? (i := 102) rfl), fun h => absurd h (by decide)⟩
set_option maxRecDepth 100000 in
theorem zt_e15_23 : zt_eOK "ColumnVault" (70, 2, 21, 999, 2093) := ⟨"java/lang/IllegalStateException", (zt_in (j := 2) (k := 93) rfl rfl), Or.inr rfl, Or.inl rfl⟩
set_option maxRecDepth 100000 in
theorem zt_e15_22 : zt_eOK "ColumnVault" (64, 1, 13, 3, 1068) := ⟨_, "ColumnVault", rfl, by decide, (zt_inN (j := 1) (k := 68) rfl rfl)⟩
set_option maxRecDepth 100000 in
theorem zt_e15_21 : zt_eOK "ColumnVault" (59, 13, 0, 0, 2086) := ⟨"no such kind", zt_ch_in (j := 2) (List.mem_of_getElem? (i := 86) rfl), fun h => absurd h (by decide)⟩
set_option maxRecDepth 100000 in
theorem zt_e15_20 : zt_eOK "ColumnVault" (57, 2, 20, 999, 2077) := ⟨"java/lang/IllegalArgumentException", (zt_in (j := 2) (k := 77) rfl rfl), Or.inr rfl, Or.inl rfl⟩
set_option maxRecDepth 100000 in
theorem zt_e15_19 : zt_eOK "ColumnVault" (53, 6, 13, 0, 2000) := ⟨_, rfl, (zt_in (j := 2) (k := 0) rfl rfl)⟩
set_option maxRecDepth 100000 in
theorem zt_e15_18 : zt_eOK "ColumnVault" (49, 0, 15, 5, 1208) := ⟨_, "ColumnVault", rfl, by decide, (zt_in (j := 1) (k := 208) rfl rfl), Or.inl rfl⟩
set_option maxRecDepth 100000 in
theorem zt_e15_17 : zt_eOK "ColumnVault" (48, 9, 8, 0, 1185) := ⟨_, "ColumnVault", rfl, (zt_inN (j := 1) (k := 185) rfl rfl)⟩
set_option maxRecDepth 100000 in
theorem zt_e15_16 : zt_eOK "ColumnVault" (46, 2, 5, 999, 1183) := ⟨"ColumnVault$Checks", (zt_in (j := 1) (k := 183) rfl rfl), Or.inr rfl, Or.inl rfl⟩
set_option maxRecDepth 100000 in
theorem zt_e15_15 : zt_eOK "ColumnVault" (42, 0, 15, 4, 1207) := ⟨_, "ColumnVault", rfl, by decide, (zt_in (j := 1) (k := 207) rfl rfl), Or.inl rfl⟩
set_option maxRecDepth 100000 in
theorem zt_e15_14 : zt_eOK "ColumnVault" (41, 9, 7, 0, 1157) := ⟨_, "ColumnVault", rfl, (zt_inN (j := 1) (k := 157) rfl rfl)⟩
set_option maxRecDepth 100000 in
theorem zt_e15_13 : zt_eOK "ColumnVault" (39, 2, 8, 999, 1155) := ⟨"ColumnVault$Groups", (zt_in (j := 1) (k := 155) rfl rfl), Or.inr rfl, Or.inl rfl⟩
set_option maxRecDepth 100000 in
theorem zt_e15_12 : zt_eOK "ColumnVault" (35, 0, 15, 3, 1206) := ⟨_, "ColumnVault", rfl, by decide, (zt_in (j := 1) (k := 206) rfl rfl), Or.inl rfl⟩
set_option maxRecDepth 100000 in
theorem zt_e15_11 : zt_eOK "ColumnVault" (34, 9, 6, 0, 1140) := ⟨_, "ColumnVault", rfl, (zt_inN (j := 1) (k := 140) rfl rfl)⟩
set_option maxRecDepth 100000 in
theorem zt_e15_10 : zt_eOK "ColumnVault" (32, 2, 12, 999, 1138) := ⟨"ColumnVault$Pairs", (zt_in (j := 1) (k := 138) rfl rfl), Or.inr rfl, Or.inl rfl⟩
set_option maxRecDepth 100000 in
theorem zt_e15_9 : zt_eOK "ColumnVault" (28, 0, 15, 2, 1205) := ⟨_, "ColumnVault", rfl, by decide, (zt_in (j := 1) (k := 205) rfl rfl), Or.inl rfl⟩
set_option maxRecDepth 100000 in
theorem zt_e15_8 : zt_eOK "ColumnVault" (27, 9, 5, 0, 1121) := ⟨_, "ColumnVault", rfl, (zt_inN (j := 1) (k := 121) rfl rfl)⟩
set_option maxRecDepth 100000 in
theorem zt_e15_7 : zt_eOK "ColumnVault" (25, 2, 14, 999, 1119) := ⟨"ColumnVault$Tokens", (zt_in (j := 1) (k := 119) rfl rfl), Or.inr rfl, Or.inl rfl⟩
set_option maxRecDepth 100000 in
theorem zt_e15_6 : zt_eOK "ColumnVault" (21, 0, 15, 1, 1204) := ⟨_, "ColumnVault", rfl, by decide, (zt_in (j := 1) (k := 204) rfl rfl), Or.inl rfl⟩
set_option maxRecDepth 100000 in
theorem zt_e15_5 : zt_eOK "ColumnVault" (20, 9, 4, 0, 1106) := ⟨_, "ColumnVault", rfl, (zt_inN (j := 1) (k := 106) rfl rfl)⟩
set_option maxRecDepth 100000 in
theorem zt_e15_4 : zt_eOK "ColumnVault" (18, 2, 7, 999, 1104) := ⟨"ColumnVault$FilterText", (zt_in (j := 1) (k := 104) rfl rfl), Or.inr rfl, Or.inl rfl⟩
set_option maxRecDepth 100000 in
theorem zt_e15_3 : zt_eOK "ColumnVault" (14, 0, 15, 0, 1203) := ⟨_, "ColumnVault", rfl, by decide, (zt_in (j := 1) (k := 203) rfl rfl), Or.inl rfl⟩
set_option maxRecDepth 100000 in
theorem zt_e15_2 : zt_eOK "ColumnVault" (13, 8, 2, 0, 1052) := ⟨_, rfl, (zt_in (j := 1) (k := 52) rfl rfl)⟩
set_option maxRecDepth 100000 in
theorem zt_e15_1 : zt_eOK "ColumnVault" (11, 2, 9, 999, 1050) := ⟨"ColumnVault$History", (zt_in (j := 1) (k := 50) rfl rfl), Or.inr rfl, Or.inl rfl⟩
set_option maxRecDepth 100000 in
theorem zt_e15_0 : zt_eOK "ColumnVault" (5, 10, 0, 0, 1047) := (zt_in (j := 1) (k := 47) rfl rfl)
theorem zt_pl15_ok : ∀ e ∈ zt_pl15, zt_eOK "ColumnVault" e := List.forall_mem_cons.mpr ⟨zt_e15_0, List.forall_mem_cons.mpr ⟨zt_e15_1, List.forall_mem_cons.mpr ⟨zt_e15_2, List.forall_mem_cons.mpr ⟨zt_e15_3, List.forall_mem_cons.mpr ⟨zt_e15_4, List.forall_mem_cons.mpr ⟨zt_e15_5, List.forall_mem_cons.mpr ⟨zt_e15_6, List.forall_mem_cons.mpr ⟨zt_e15_7, List.forall_mem_cons.mpr ⟨zt_e15_8, List.forall_mem_cons.mpr ⟨zt_e15_9, List.forall_mem_cons.mpr ⟨zt_e15_10, List.forall_mem_cons.mpr ⟨zt_e15_11, List.forall_mem_cons.mpr ⟨zt_e15_12, List.forall_mem_cons.mpr ⟨zt_e15_13, List.forall_mem_cons.mpr ⟨zt_e15_14, List.forall_mem_cons.mpr ⟨zt_e15_15, List.forall_mem_cons.mpr ⟨zt_e15_16, List.forall_mem_cons.mpr ⟨zt_e15_17, List.forall_mem_cons.mpr ⟨zt_e15_18, List.forall_mem_cons.mpr ⟨zt_e15_19, List.forall_mem_cons.mpr ⟨zt_e15_20, List.forall_mem_cons.mpr ⟨zt_e15_21, List.forall_mem_cons.mpr ⟨zt_e15_22, List.forall_mem_cons.mpr ⟨zt_e15_23, List.forall_mem_cons.mpr ⟨zt_e15_24, List.forall_mem_cons.mpr ⟨zt_e15_25, List.forall_mem_cons.mpr ⟨zt_e15_26, List.forall_mem_cons.mpr ⟨zt_e15_27, List.forall_mem_cons.mpr ⟨zt_e15_28, List.forall_mem_cons.mpr ⟨zt_e15_29, List.forall_mem_cons.mpr ⟨zt_e15_30, List.forall_mem_cons.mpr ⟨zt_e15_31, List.forall_mem_cons.mpr ⟨zt_e15_32, List.forall_mem_cons.mpr ⟨zt_e15_33, List.forall_mem_cons.mpr ⟨zt_e15_34, List.forall_mem_cons.mpr ⟨zt_e15_35, List.forall_mem_cons.mpr ⟨zt_e15_36, List.forall_mem_cons.mpr ⟨zt_e15_37, List.forall_mem_cons.mpr ⟨zt_e15_38, List.forall_mem_cons.mpr ⟨zt_e15_39, List.forall_mem_cons.mpr ⟨zt_e15_40, List.forall_mem_cons.mpr ⟨zt_e15_41, List.forall_mem_cons.mpr ⟨zt_e15_42, List.forall_mem_cons.mpr ⟨zt_e15_43, List.forall_mem_cons.mpr ⟨zt_e15_44, List.forall_mem_cons.mpr ⟨zt_e15_45, List.forall_mem_cons.mpr ⟨zt_e15_46, List.forall_mem_cons.mpr ⟨zt_e15_47, List.forall_mem_cons.mpr ⟨zt_e15_48, List.forall_mem_cons.mpr ⟨zt_e15_49, List.forall_mem_cons.mpr ⟨zt_e15_50, List.forall_mem_cons.mpr ⟨zt_e15_51, List.forall_mem_cons.mpr ⟨zt_e15_52, List.forall_mem_cons.mpr ⟨zt_e15_53, List.forall_mem_cons.mpr ⟨zt_e15_54, List.forall_mem_cons.mpr ⟨zt_e15_55, List.forall_mem_cons.mpr ⟨zt_e15_56, List.forall_mem_cons.mpr ⟨zt_e15_57, List.forall_mem_cons.mpr ⟨zt_e15_58, List.forall_mem_cons.mpr ⟨zt_e15_59, List.forall_mem_cons.mpr ⟨zt_e15_60, List.forall_mem_cons.mpr ⟨zt_e15_61, List.forall_mem_cons.mpr ⟨zt_e15_62, List.forall_mem_cons.mpr ⟨zt_e15_63, List.forall_mem_cons.mpr ⟨zt_e15_64, List.forall_mem_cons.mpr ⟨zt_e15_65, List.forall_mem_cons.mpr ⟨zt_e15_66, List.forall_mem_cons.mpr ⟨zt_e15_67, List.forall_mem_cons.mpr ⟨zt_e15_68, List.forall_mem_cons.mpr ⟨zt_e15_69, List.forall_mem_cons.mpr ⟨zt_e15_70, List.forall_mem_cons.mpr ⟨zt_e15_71, List.forall_mem_cons.mpr ⟨zt_e15_72, List.forall_mem_cons.mpr ⟨zt_e15_73, List.forall_mem_cons.mpr ⟨zt_e15_74, List.forall_mem_cons.mpr ⟨zt_e15_75, List.forall_mem_cons.mpr ⟨zt_e15_76, List.forall_mem_cons.mpr ⟨zt_e15_77, List.forall_mem_cons.mpr ⟨zt_e15_78, List.forall_mem_cons.mpr ⟨zt_e15_79, List.forall_mem_cons.mpr ⟨zt_e15_80, List.forall_mem_cons.mpr ⟨zt_e15_81, List.forall_mem_cons.mpr ⟨zt_e15_82, List.forall_mem_cons.mpr ⟨zt_e15_83, List.forall_mem_cons.mpr ⟨zt_e15_84, List.forall_mem_cons.mpr ⟨zt_e15_85, List.forall_mem_cons.mpr ⟨zt_e15_86, List.forall_mem_cons.mpr ⟨zt_e15_87, List.forall_mem_cons.mpr ⟨zt_e15_88, List.forall_mem_cons.mpr ⟨zt_e15_89, List.forall_mem_cons.mpr ⟨zt_e15_90, List.forall_mem_cons.mpr ⟨zt_e15_91, List.forall_mem_cons.mpr ⟨zt_e15_92, List.forall_mem_cons.mpr ⟨zt_e15_93, List.forall_mem_cons.mpr ⟨zt_e15_94, List.forall_mem_cons.mpr ⟨zt_e15_95, List.forall_mem_cons.mpr ⟨zt_e15_96, List.forall_mem_cons.mpr ⟨zt_e15_97, List.forall_mem_cons.mpr ⟨zt_e15_98, List.forall_mem_cons.mpr ⟨zt_e15_99, List.forall_mem_cons.mpr ⟨zt_e15_100, List.forall_mem_cons.mpr ⟨zt_e15_101, List.forall_mem_cons.mpr ⟨zt_e15_102, List.forall_mem_cons.mpr ⟨zt_e15_103, List.forall_mem_cons.mpr ⟨zt_e15_104, List.forall_mem_cons.mpr ⟨zt_e15_105, List.forall_mem_cons.mpr ⟨zt_e15_106, List.forall_mem_cons.mpr ⟨zt_e15_107, List.forall_mem_cons.mpr ⟨zt_e15_108, List.forall_mem_cons.mpr ⟨zt_e15_109, List.forall_mem_cons.mpr ⟨zt_e15_110, List.forall_mem_cons.mpr ⟨zt_e15_111, List.forall_mem_cons.mpr ⟨zt_e15_112, List.forall_mem_cons.mpr ⟨zt_e15_113, List.forall_mem_cons.mpr ⟨zt_e15_114, List.forall_mem_cons.mpr ⟨zt_e15_115, List.forall_mem_cons.mpr ⟨zt_e15_116, List.forall_mem_cons.mpr ⟨zt_e15_117, List.forall_mem_cons.mpr ⟨zt_e15_118, List.forall_mem_cons.mpr ⟨zt_e15_119, List.forall_mem_cons.mpr ⟨zt_e15_120, List.forall_mem_cons.mpr ⟨zt_e15_121, List.forall_mem_cons.mpr ⟨zt_e15_122, List.forall_mem_cons.mpr ⟨zt_e15_123, List.forall_mem_cons.mpr ⟨zt_e15_124, List.forall_mem_cons.mpr ⟨zt_e15_125, List.forall_mem_cons.mpr ⟨zt_e15_126, List.forall_mem_cons.mpr ⟨zt_e15_127, List.forall_mem_cons.mpr ⟨zt_e15_128, List.forall_mem_cons.mpr ⟨zt_e15_129, List.forall_mem_cons.mpr ⟨zt_e15_130, List.forall_mem_cons.mpr ⟨zt_e15_131, List.forall_mem_cons.mpr ⟨zt_e15_132, List.forall_mem_cons.mpr ⟨zt_e15_133, List.forall_mem_cons.mpr ⟨zt_e15_134, List.forall_mem_cons.mpr ⟨zt_e15_135, List.forall_mem_cons.mpr ⟨zt_e15_136, fun _ h => absurd h List.not_mem_nil⟩⟩⟩⟩⟩⟩⟩⟩⟩⟩⟩⟩⟩⟩⟩⟩⟩⟩⟩⟩⟩⟩⟩⟩⟩⟩⟩⟩⟩⟩⟩⟩⟩⟩⟩⟩⟩⟩⟩⟩⟩⟩⟩⟩⟩⟩⟩⟩⟩⟩⟩⟩⟩⟩⟩⟩⟩⟩⟩⟩⟩⟩⟩⟩⟩⟩⟩⟩⟩⟩⟩⟩⟩⟩⟩⟩⟩⟩⟩⟩⟩⟩⟩⟩⟩⟩⟩⟩⟩⟩⟩⟩⟩⟩⟩⟩⟩⟩⟩⟩⟩⟩⟩⟩⟩⟩⟩⟩⟩⟩⟩⟩⟩⟩⟩⟩⟩⟩⟩⟩⟩⟩⟩⟩⟩⟩⟩⟩⟩⟩⟩⟩⟩⟩⟩⟩⟩
set_option maxRecDepth 100000 in
theorem zt_lc15_ok : ∀ e ∈ zt_lc15, Cond.constantLong "ColumnVault" e.1 e.2.1 ∈ zt_good := List.forall_mem_cons.mpr ⟨(zt_in (j := 2) (k := 177) rfl rfl), List.forall_mem_cons.mpr ⟨(zt_in (j := 2) (k := 178) rfl rfl), List.forall_mem_cons.mpr ⟨(zt_in (j := 2) (k := 193) rfl rfl), List.forall_mem_cons.mpr ⟨(zt_in (j := 2) (k := 200) rfl rfl), List.forall_mem_cons.mpr ⟨(zt_in (j := 4) (k := 83) rfl rfl), List.forall_mem_cons.mpr ⟨(zt_in (j := 5) (k := 202) rfl rfl), fun _ h => absurd h List.not_mem_nil⟩⟩⟩⟩⟩⟩
set_option maxRecDepth 100000 in
theorem zt_e16_22 : zt_eOK "ColumnVaultModel$Node" (84, 6, 307, 0, 8238) := ⟨_, rfl, (zt_in (j := 8) (k := 238) rfl rfl)⟩
set_option maxRecDepth 100000 in
theorem zt_e16_21 : zt_eOK "ColumnVaultModel$Node" (80, 6, 308, 0, 8233) := ⟨_, rfl, (zt_in (j := 8) (k := 233) rfl rfl)⟩
set_option maxRecDepth 100000 in
theorem zt_e16_20 : zt_eOK "ColumnVaultModel$Node" (76, 6, 305, 0, 8237) := ⟨_, rfl, (zt_in (j := 8) (k := 237) rfl rfl)⟩
set_option maxRecDepth 100000 in
theorem zt_e16_19 : zt_eOK "ColumnVaultModel$Node" (73, 6, 246, 0, 8224) := ⟨_, rfl, (zt_in (j := 8) (k := 224) rfl rfl)⟩
set_option maxRecDepth 100000 in
theorem zt_e16_18 : zt_eOK "ColumnVaultModel$Node" (69, 6, 301, 0, 8189) := ⟨_, rfl, (zt_in (j := 8) (k := 189) rfl rfl)⟩
set_option maxRecDepth 100000 in
theorem zt_e16_17 : zt_eOK "ColumnVaultModel$Node" (65, 6, 268, 0, 8188) := ⟨_, rfl, (zt_in (j := 8) (k := 188) rfl rfl)⟩
set_option maxRecDepth 100000 in
theorem zt_e16_16 : zt_eOK "ColumnVaultModel$Node" (61, 5, 275, 0, 8202) := ⟨_, "ColumnVaultModel", rfl, (zt_inN (j := 8) (k := 202) rfl rfl)⟩
set_option maxRecDepth 100000 in
theorem zt_e16_15 : zt_eOK "ColumnVaultModel$Node" (57, 6, 302, 0, 8198) := ⟨_, rfl, (zt_in (j := 8) (k := 198) rfl rfl)⟩
set_option maxRecDepth 100000 in
theorem zt_e16_14 : zt_eOK "ColumnVaultModel$Node" (55, 2, 3, 999, 8197) := ⟨"java/lang/Long", (zt_in (j := 8) (k := 197) rfl rfl), Or.inr rfl, Or.inl rfl⟩
set_option maxRecDepth 100000 in
theorem zt_e16_13 : zt_eOK "ColumnVaultModel$Node" (51, 6, 257, 0, 8194) := ⟨_, rfl, (zt_in (j := 8) (k := 194) rfl rfl)⟩
set_option maxRecDepth 100000 in
theorem zt_e16_12 : zt_eOK "ColumnVaultModel$Node" (45, 6, 251, 0, 8193) := ⟨_, rfl, (zt_in (j := 8) (k := 193) rfl rfl)⟩
set_option maxRecDepth 100000 in
theorem zt_e16_11 : zt_eOK "ColumnVaultModel$Node" (42, 0, 16, 2, 8090) := ⟨_, "ColumnVaultModel$Node", rfl, by decide, (zt_in (j := 8) (k := 90) rfl rfl), Or.inl rfl⟩
set_option maxRecDepth 100000 in
theorem zt_e16_10 : zt_eOK "ColumnVaultModel$Node" (38, 11, 221, 0, 8204) := ⟨_, rfl, (zt_in (j := 8) (k := 204) rfl rfl)⟩
set_option maxRecDepth 100000 in
theorem zt_e16_9 : zt_eOK "ColumnVaultModel$Node" (35, 6, 299, 0, 8206) := ⟨_, rfl, (zt_in (j := 8) (k := 206) rfl rfl)⟩
set_option maxRecDepth 100000 in
theorem zt_e16_8 : zt_eOK "ColumnVaultModel$Node" (29, 11, 222, 1, 8196) := ⟨_, rfl, (zt_in (j := 8) (k := 196) rfl rfl)⟩
set_option maxRecDepth 100000 in
theorem zt_e16_7 : zt_eOK "ColumnVaultModel$Node" (25, 6, 300, 0, 8184) := ⟨_, rfl, (zt_in (j := 8) (k := 184) rfl rfl)⟩
set_option maxRecDepth 100000 in
theorem zt_e16_6 : zt_eOK "ColumnVaultModel$Node" (21, 0, 16, 0, 8086) := ⟨_, "ColumnVaultModel$Node", rfl, by decide, (zt_in (j := 8) (k := 86) rfl rfl), Or.inl rfl⟩
set_option maxRecDepth 100000 in
theorem zt_e16_5 : zt_eOK "ColumnVaultModel$Node" (18, 0, 16, 3, 8092) := ⟨_, "ColumnVaultModel$Node", rfl, by decide, (zt_in (j := 8) (k := 92) rfl rfl), Or.inl rfl⟩
set_option maxRecDepth 100000 in
theorem zt_e16_4 : zt_eOK "ColumnVaultModel$Node" (13, 2, 16, 999, 8205) := ⟨"ColumnVaultModel$Node", (zt_in (j := 8) (k := 205) rfl rfl), Or.inr rfl, Or.inl rfl⟩
set_option maxRecDepth 100000 in
theorem zt_e16_3 : zt_eOK "ColumnVaultModel$Node" (12, 0, 16, 1, 8088) := ⟨_, "ColumnVaultModel$Node", rfl, by decide, (zt_in (j := 8) (k := 88) rfl rfl), Or.inl rfl⟩
set_option maxRecDepth 100000 in
theorem zt_e16_2 : zt_eOK "ColumnVaultModel$Node" (11, 8, 216, 0, 8085) := ⟨_, rfl, (zt_in (j := 8) (k := 85) rfl rfl)⟩
set_option maxRecDepth 100000 in
theorem zt_e16_1 : zt_eOK "ColumnVaultModel$Node" (9, 2, 4, 999, 8084) := ⟨"java/util/ArrayList", (zt_in (j := 8) (k := 84) rfl rfl), Or.inr rfl, Or.inl rfl⟩
set_option maxRecDepth 100000 in
theorem zt_e16_0 : zt_eOK "ColumnVaultModel$Node" (3, 10, 0, 0, 8083) := (zt_in (j := 8) (k := 83) rfl rfl)
theorem zt_pl16_ok : ∀ e ∈ zt_pl16, zt_eOK "ColumnVaultModel$Node" e := List.forall_mem_cons.mpr ⟨zt_e16_0, List.forall_mem_cons.mpr ⟨zt_e16_1, List.forall_mem_cons.mpr ⟨zt_e16_2, List.forall_mem_cons.mpr ⟨zt_e16_3, List.forall_mem_cons.mpr ⟨zt_e16_4, List.forall_mem_cons.mpr ⟨zt_e16_5, List.forall_mem_cons.mpr ⟨zt_e16_6, List.forall_mem_cons.mpr ⟨zt_e16_7, List.forall_mem_cons.mpr ⟨zt_e16_8, List.forall_mem_cons.mpr ⟨zt_e16_9, List.forall_mem_cons.mpr ⟨zt_e16_10, List.forall_mem_cons.mpr ⟨zt_e16_11, List.forall_mem_cons.mpr ⟨zt_e16_12, List.forall_mem_cons.mpr ⟨zt_e16_13, List.forall_mem_cons.mpr ⟨zt_e16_14, List.forall_mem_cons.mpr ⟨zt_e16_15, List.forall_mem_cons.mpr ⟨zt_e16_16, List.forall_mem_cons.mpr ⟨zt_e16_17, List.forall_mem_cons.mpr ⟨zt_e16_18, List.forall_mem_cons.mpr ⟨zt_e16_19, List.forall_mem_cons.mpr ⟨zt_e16_20, List.forall_mem_cons.mpr ⟨zt_e16_21, List.forall_mem_cons.mpr ⟨zt_e16_22, fun _ h => absurd h List.not_mem_nil⟩⟩⟩⟩⟩⟩⟩⟩⟩⟩⟩⟩⟩⟩⟩⟩⟩⟩⟩⟩⟩⟩⟩
set_option maxRecDepth 100000 in
theorem zt_lc16_ok : ∀ e ∈ zt_lc16, Cond.constantLong "ColumnVaultModel$Node" e.1 e.2.1 ∈ zt_good := fun _ h => absurd h List.not_mem_nil
set_option maxRecDepth 100000 in
theorem zt_e17_28 : zt_eOK "ColumnVaultModel$Table" (96, 6, 274, 0, 8037) := ⟨_, rfl, (zt_in (j := 8) (k := 37) rfl rfl)⟩
set_option maxRecDepth 100000 in
theorem zt_e17_27 : zt_eOK "ColumnVaultModel$Table" (92, 5, 275, 0, 8043) := ⟨_, "ColumnVaultModel", rfl, (zt_inN (j := 8) (k := 43) rfl rfl)⟩
set_option maxRecDepth 100000 in
theorem zt_e17_26 : zt_eOK "ColumnVaultModel$Table" (89, 6, 251, 0, 8042) := ⟨_, rfl, (zt_in (j := 8) (k := 42) rfl rfl)⟩
set_option maxRecDepth 100000 in
theorem zt_e17_25 : zt_eOK "ColumnVaultModel$Table" (85, 6, 268, 0, 8041) := ⟨_, rfl, (zt_in (j := 8) (k := 41) rfl rfl)⟩
set_option maxRecDepth 100000 in
theorem zt_e17_24 : zt_eOK "ColumnVaultModel$Table" (81, 6, 266, 0, 8005) := ⟨_, rfl, (zt_in (j := 8) (k := 5) rfl rfl)⟩
set_option maxRecDepth 100000 in
theorem zt_e17_23 : zt_eOK "ColumnVaultModel$Table" (79, 6, 246, 0, 8004) := ⟨_, rfl, (zt_in (j := 8) (k := 4) rfl rfl)⟩
set_option maxRecDepth 100000 in
theorem zt_e17_22 : zt_eOK "ColumnVaultModel$Table" (75, 11, 262, 4, 7223) := ⟨_, rfl, (zt_in (j := 7) (k := 223) rfl rfl)⟩
set_option maxRecDepth 100000 in
theorem zt_e17_21 : zt_eOK "ColumnVaultModel$Table" (71, 6, 261, 0, 7218) := ⟨_, rfl, (zt_in (j := 7) (k := 218) rfl rfl)⟩
set_option maxRecDepth 100000 in
theorem zt_e17_20 : zt_eOK "ColumnVaultModel$Table" (68, 11, 243, 3, 7213) := ⟨_, rfl, (zt_in (j := 7) (k := 213) rfl rfl)⟩
set_option maxRecDepth 100000 in
theorem zt_e17_19 : zt_eOK "ColumnVaultModel$Table" (65, 4, 248, 0, 7150) := ⟨_, rfl, (zt_in (j := 7) (k := 150) rfl rfl)⟩
set_option maxRecDepth 100000 in
theorem zt_e17_18 : zt_eOK "ColumnVaultModel$Table" (61, 4, 239, 0, 7149) := ⟨_, rfl, (zt_in (j := 7) (k := 149) rfl rfl)⟩
set_option maxRecDepth 100000 in
theorem zt_e17_17 : zt_eOK "ColumnVaultModel$Table" (57, 6, 260, 0, 7214) := ⟨_, rfl, (zt_in (j := 7) (k := 214) rfl rfl)⟩
set_option maxRecDepth 100000 in
theorem zt_e17_16 : zt_eOK "ColumnVaultModel$Table" (54, 6, 252, 0, 7174) := ⟨_, rfl, (zt_in (j := 7) (k := 174) rfl rfl)⟩
set_option maxRecDepth 100000 in
theorem zt_e17_15 : zt_eOK "ColumnVaultModel$Table" (48, 6, 257, 0, 8016) := ⟨_, rfl, (zt_in (j := 8) (k := 16) rfl rfl)⟩
set_option maxRecDepth 100000 in
theorem zt_e17_14 : zt_eOK "ColumnVaultModel$Table" (46, 19, 0, 0, 7024) := (zt_in (j := 7) (k := 24) rfl rfl)
set_option maxRecDepth 100000 in
theorem zt_e17_13 : zt_eOK "ColumnVaultModel$Table" (44, 18, 2, 0, 7023) := ⟨"[J", _, (zt_in (j := 7) (k := 23) rfl rfl), rfl, by decide +kernel⟩
set_option maxRecDepth 100000 in
theorem zt_e17_12 : zt_eOK "ColumnVaultModel$Table" (40, 11, 225, 2, 6192) := ⟨_, rfl, (zt_in (j := 6) (k := 192) rfl rfl)⟩
set_option maxRecDepth 100000 in
theorem zt_e17_11 : zt_eOK "ColumnVaultModel$Table" (38, 2, 2, 999, 6190) := ⟨"java/lang/Integer", (zt_in (j := 6) (k := 190) rfl rfl), Or.inr rfl, Or.inl rfl⟩
set_option maxRecDepth 100000 in
theorem zt_e17_10 : zt_eOK "ColumnVaultModel$Table" (34, 11, 222, 1, 6174) := ⟨_, rfl, (zt_in (j := 6) (k := 174) rfl rfl)⟩
set_option maxRecDepth 100000 in
theorem zt_e17_9 : zt_eOK "ColumnVaultModel$Table" (28, 11, 221, 0, 6164) := ⟨_, rfl, (zt_in (j := 6) (k := 164) rfl rfl)⟩
set_option maxRecDepth 100000 in
theorem zt_e17_8 : zt_eOK "ColumnVaultModel$Table" (27, 8, 215, 0, 6162) := ⟨_, rfl, (zt_in (j := 6) (k := 162) rfl rfl)⟩
set_option maxRecDepth 100000 in
theorem zt_e17_7 : zt_eOK "ColumnVaultModel$Table" (24, 0, 17, 3, 6141) := ⟨_, "ColumnVaultModel$Table", rfl, by decide, (zt_in (j := 6) (k := 141) rfl rfl), Or.inl rfl⟩
set_option maxRecDepth 100000 in
theorem zt_e17_6 : zt_eOK "ColumnVaultModel$Table" (21, 0, 17, 2, 6139) := ⟨_, "ColumnVaultModel$Table", rfl, by decide, (zt_in (j := 6) (k := 139) rfl rfl), Or.inl rfl⟩
set_option maxRecDepth 100000 in
theorem zt_e17_5 : zt_eOK "ColumnVaultModel$Table" (18, 0, 17, 1, 6137) := ⟨_, "ColumnVaultModel$Table", rfl, by decide, (zt_in (j := 6) (k := 137) rfl rfl), Or.inl rfl⟩
set_option maxRecDepth 100000 in
theorem zt_e17_4 : zt_eOK "ColumnVaultModel$Table" (13, 2, 17, 4, 6161) := ⟨"ColumnVaultModel$Table", (zt_in (j := 6) (k := 161) rfl rfl), Or.inr rfl, Or.inr rfl⟩
set_option maxRecDepth 100000 in
theorem zt_e17_3 : zt_eOK "ColumnVaultModel$Table" (12, 0, 17, 0, 6135) := ⟨_, "ColumnVaultModel$Table", rfl, by decide, (zt_in (j := 6) (k := 135) rfl rfl), Or.inl rfl⟩
set_option maxRecDepth 100000 in
theorem zt_e17_2 : zt_eOK "ColumnVaultModel$Table" (11, 8, 216, 0, 6111) := ⟨_, rfl, (zt_in (j := 6) (k := 111) rfl rfl)⟩
set_option maxRecDepth 100000 in
theorem zt_e17_1 : zt_eOK "ColumnVaultModel$Table" (9, 2, 4, 999, 6109) := ⟨"java/util/ArrayList", (zt_in (j := 6) (k := 109) rfl rfl), Or.inr rfl, Or.inl rfl⟩
set_option maxRecDepth 100000 in
theorem zt_e17_0 : zt_eOK "ColumnVaultModel$Table" (3, 10, 0, 0, 6108) := (zt_in (j := 6) (k := 108) rfl rfl)
theorem zt_pl17_ok : ∀ e ∈ zt_pl17, zt_eOK "ColumnVaultModel$Table" e := List.forall_mem_cons.mpr ⟨zt_e17_0, List.forall_mem_cons.mpr ⟨zt_e17_1, List.forall_mem_cons.mpr ⟨zt_e17_2, List.forall_mem_cons.mpr ⟨zt_e17_3, List.forall_mem_cons.mpr ⟨zt_e17_4, List.forall_mem_cons.mpr ⟨zt_e17_5, List.forall_mem_cons.mpr ⟨zt_e17_6, List.forall_mem_cons.mpr ⟨zt_e17_7, List.forall_mem_cons.mpr ⟨zt_e17_8, List.forall_mem_cons.mpr ⟨zt_e17_9, List.forall_mem_cons.mpr ⟨zt_e17_10, List.forall_mem_cons.mpr ⟨zt_e17_11, List.forall_mem_cons.mpr ⟨zt_e17_12, List.forall_mem_cons.mpr ⟨zt_e17_13, List.forall_mem_cons.mpr ⟨zt_e17_14, List.forall_mem_cons.mpr ⟨zt_e17_15, List.forall_mem_cons.mpr ⟨zt_e17_16, List.forall_mem_cons.mpr ⟨zt_e17_17, List.forall_mem_cons.mpr ⟨zt_e17_18, List.forall_mem_cons.mpr ⟨zt_e17_19, List.forall_mem_cons.mpr ⟨zt_e17_20, List.forall_mem_cons.mpr ⟨zt_e17_21, List.forall_mem_cons.mpr ⟨zt_e17_22, List.forall_mem_cons.mpr ⟨zt_e17_23, List.forall_mem_cons.mpr ⟨zt_e17_24, List.forall_mem_cons.mpr ⟨zt_e17_25, List.forall_mem_cons.mpr ⟨zt_e17_26, List.forall_mem_cons.mpr ⟨zt_e17_27, List.forall_mem_cons.mpr ⟨zt_e17_28, fun _ h => absurd h List.not_mem_nil⟩⟩⟩⟩⟩⟩⟩⟩⟩⟩⟩⟩⟩⟩⟩⟩⟩⟩⟩⟩⟩⟩⟩⟩⟩⟩⟩⟩⟩
set_option maxRecDepth 100000 in
theorem zt_lc17_ok : ∀ e ∈ zt_lc17, Cond.constantLong "ColumnVaultModel$Table" e.1 e.2.1 ∈ zt_good := List.forall_mem_cons.mpr ⟨(zt_in (j := 7) (k := 148) rfl rfl), fun _ h => absurd h List.not_mem_nil⟩
set_option maxRecDepth 100000 in
theorem zt_e18_122 : zt_eOK "ColumnVaultModel" (439, 4, 393, 0, 10148) := ⟨_, rfl, (zt_in (j := 10) (k := 148) rfl rfl)⟩
set_option maxRecDepth 100000 in
theorem zt_e18_121 : zt_eOK "ColumnVaultModel" (435, 4, 392, 0, 10145) := ⟨_, rfl, (zt_in (j := 10) (k := 145) rfl rfl)⟩
set_option maxRecDepth 100000 in
theorem zt_e18_120 : zt_eOK "ColumnVaultModel" (431, 4, 391, 0, 10142) := ⟨_, rfl, (zt_in (j := 10) (k := 142) rfl rfl)⟩
set_option maxRecDepth 100000 in
theorem zt_e18_119 : zt_eOK "ColumnVaultModel" (427, 16, 0, 0, 10151) := Or.inl ⟨rfl, (zt_in (j := 10) (k := 151) rfl rfl), (zt_in (j := 3) (k := 193) rfl rfl), (zt_in (j := 1) (k := 17) rfl rfl), (zt_in (j := 3) (k := 194) rfl rfl)⟩
set_option maxRecDepth 100000 in
theorem zt_e18_118 : zt_eOK "ColumnVaultModel" (424, 4, 387, 0, 10129) := ⟨_, rfl, (zt_in (j := 10) (k := 129) rfl rfl)⟩
set_option maxRecDepth 100000 in
theorem zt_e18_117 : zt_eOK "ColumnVaultModel" (420, 4, 386, 0, 10126) := ⟨_, rfl, (zt_in (j := 10) (k := 126) rfl rfl)⟩
set_option maxRecDepth 100000 in
theorem zt_e18_116 : zt_eOK "ColumnVaultModel" (416, 4, 388, 0, 10132) := ⟨_, rfl, (zt_in (j := 10) (k := 132) rfl rfl)⟩
set_option maxRecDepth 100000 in
theorem zt_e18_115 : zt_eOK "ColumnVaultModel" (412, 4, 389, 0, 10135) := ⟨_, rfl, (zt_in (j := 10) (k := 135) rfl rfl)⟩
set_option maxRecDepth 100000 in
theorem zt_e18_114 : zt_eOK "ColumnVaultModel" (408, 4, 383, 0, 10115) := ⟨_, rfl, (zt_in (j := 10) (k := 115) rfl rfl)⟩
set_option maxRecDepth 100000 in
theorem zt_e18_113 : zt_eOK "ColumnVaultModel" (404, 4, 377, 0, 10092) := ⟨_, rfl, (zt_in (j := 10) (k := 92) rfl rfl)⟩
set_option maxRecDepth 100000 in
theorem zt_e18_112 : zt_eOK "ColumnVaultModel" (401, 11, 376, 7, 10084) := ⟨_, rfl, (zt_in (j := 10) (k := 84) rfl rfl)⟩
set_option maxRecDepth 100000 in
theorem zt_e18_111 : zt_eOK "ColumnVaultModel" (398, 4, 375, 0, 10079) := ⟨_, rfl, (zt_in (j := 10) (k := 79) rfl rfl)⟩
set_option maxRecDepth 100000 in
theorem zt_e18_110 : zt_eOK "ColumnVaultModel" (394, 4, 374, 0, 10075) := ⟨_, rfl, (zt_in (j := 10) (k := 75) rfl rfl)⟩
set_option maxRecDepth 100000 in
theorem zt_e18_109 : zt_eOK "ColumnVaultModel" (390, 4, 373, 0, 10070) := ⟨_, rfl, (zt_in (j := 10) (k := 70) rfl rfl)⟩
set_option maxRecDepth 100000 in
theorem zt_e18_108 : zt_eOK "ColumnVaultModel" (386, 4, 372, 0, 10067) := ⟨_, rfl, (zt_in (j := 10) (k := 67) rfl rfl)⟩
set_option maxRecDepth 100000 in
theorem zt_e18_107 : zt_eOK "ColumnVaultModel" (378, 6, 302, 0, 10074) := ⟨_, rfl, (zt_in (j := 10) (k := 74) rfl rfl)⟩
set_option maxRecDepth 100000 in
theorem zt_e18_106 : zt_eOK "ColumnVaultModel" (374, 4, 322, 0, 9063) := ⟨_, rfl, (zt_in (j := 9) (k := 63) rfl rfl)⟩
set_option maxRecDepth 100000 in
theorem zt_e18_105 : zt_eOK "ColumnVaultModel" (371, 0, 18, 14, 7041) := ⟨_, "ColumnVaultModel", rfl, by decide, (zt_in (j := 7) (k := 41) rfl rfl), Or.inl rfl⟩
set_option maxRecDepth 100000 in
theorem zt_e18_104 : zt_eOK "ColumnVaultModel" (368, 11, 324, 6, 9073) := ⟨_, rfl, (zt_in (j := 9) (k := 73) rfl rfl)⟩
set_option maxRecDepth 100000 in
theorem zt_e18_103 : zt_eOK "ColumnVaultModel" (364, 7, 274, 0, 9071) := ⟨_, "ColumnVaultModel", rfl, (zt_inN (j := 9) (k := 71) rfl rfl)⟩
set_option maxRecDepth 100000 in
theorem zt_e18_102 : zt_eOK "ColumnVaultModel" (360, 6, 323, 0, 9067) := ⟨_, rfl, (zt_in (j := 9) (k := 67) rfl rfl)⟩
set_option maxRecDepth 100000 in
theorem zt_e18_101 : zt_eOK "ColumnVaultModel" (356, 4, 275, 0, 9058) := ⟨_, rfl, (zt_in (j := 9) (k := 58) rfl rfl)⟩
set_option maxRecDepth 100000 in
theorem zt_e18_100 : zt_eOK "ColumnVaultModel" (355, 18, 1, 0, 9053) := ⟨"[I", _, (zt_in (j := 9) (k := 53) rfl rfl), rfl, by decide +kernel⟩
set_option maxRecDepth 100000 in
theorem zt_e18_99 : zt_eOK "ColumnVaultModel" (351, 6, 318, 0, 9045) := ⟨_, rfl, (zt_in (j := 9) (k := 45) rfl rfl)⟩
set_option maxRecDepth 100000 in
theorem zt_e18_98 : zt_eOK "ColumnVaultModel" (348, 11, 317, 5, 9037) := ⟨_, rfl, (zt_in (j := 9) (k := 37) rfl rfl)⟩
set_option maxRecDepth 100000 in
theorem zt_e18_97 : zt_eOK "ColumnVaultModel" (345, 6, 316, 0, 9032) := ⟨_, rfl, (zt_in (j := 9) (k := 32) rfl rfl)⟩
set_option maxRecDepth 100000 in
theorem zt_e18_96 : zt_eOK "ColumnVaultModel" (341, 6, 315, 0, 9028) := ⟨_, rfl, (zt_in (j := 9) (k := 28) rfl rfl)⟩
set_option maxRecDepth 100000 in
theorem zt_e18_95 : zt_eOK "ColumnVaultModel" (339, 13, 616, 1, 9023) := ⟨"!(#0 missing) & (#0 > 2 | #0 < -2) & #0 to -9 9", zt_ch_in (j := 9) (List.mem_of_getElem? (i := 23) rfl), fun _ => List.mem_of_getElem? (i := 8) rfl⟩
set_option maxRecDepth 100000 in
theorem zt_e18_94 : zt_eOK "ColumnVaultModel" (337, 13, 614, 1, 9022) := ⟨"#0 to -3 3 | #0 in 7 9 11 & !#0 = 9", zt_ch_in (j := 9) (List.mem_of_getElem? (i := 22) rfl), fun _ => List.mem_of_getElem? (i := 7) rfl⟩
set_option maxRecDepth 100000 in
theorem zt_e18_93 : zt_eOK "ColumnVaultModel" (335, 13, 612, 1, 9021) := ⟨"#0 < 5 & !(#1 = b | #1 missing)", zt_ch_in (j := 9) (List.mem_of_getElem? (i := 21) rfl), fun _ => List.mem_of_getElem? (i := 6) rfl⟩
set_option maxRecDepth 100000 in
theorem zt_e18_92 : zt_eOK "ColumnVaultModel" (329, 6, 307, 0, 8229) := ⟨_, rfl, (zt_in (j := 8) (k := 229) rfl rfl)⟩
set_option maxRecDepth 100000 in
theorem zt_e18_91 : zt_eOK "ColumnVaultModel" (326, 7, 305, 0, 8220) := ⟨_, "ColumnVaultModel", rfl, (zt_inN (j := 8) (k := 220) rfl rfl)⟩
set_option maxRecDepth 100000 in
theorem zt_e18_90 : zt_eOK "ColumnVaultModel" (322, 2, 3, 999, 10073) := ⟨"java/lang/Long", (zt_in (j := 10) (k := 73) rfl rfl), Or.inr rfl, Or.inl rfl⟩
set_option maxRecDepth 100000 in
theorem zt_e18_89 : zt_eOK "ColumnVaultModel" (321, 4, 297, 0, 8163) := ⟨_, rfl, (zt_in (j := 8) (k := 163) rfl rfl)⟩
set_option maxRecDepth 100000 in
theorem zt_e18_88 : zt_eOK "ColumnVaultModel" (318, 1, 16, 3, 8093) := ⟨_, "ColumnVaultModel", rfl, by decide, (zt_inN (j := 8) (k := 93) rfl rfl)⟩
set_option maxRecDepth 100000 in
theorem zt_e18_87 : zt_eOK "ColumnVaultModel" (312, 16, 0, 2, 8162) := Or.inr (Or.inr ⟨rfl, (zt_in (j := 8) (k := 162) rfl rfl), (zt_in (j := 3) (k := 189) rfl rfl), (zt_in (j := 1) (k := 17) rfl rfl), (zt_in (j := 3) (k := 190) rfl rfl)⟩)
set_option maxRecDepth 100000 in
theorem zt_e18_86 : zt_eOK "ColumnVaultModel" (305, 6, 296, 0, 8156) := ⟨_, rfl, (zt_in (j := 8) (k := 156) rfl rfl)⟩
set_option maxRecDepth 100000 in
theorem zt_e18_85 : zt_eOK "ColumnVaultModel" (302, 6, 295, 0, 8152) := ⟨_, rfl, (zt_in (j := 8) (k := 152) rfl rfl)⟩
set_option maxRecDepth 100000 in
theorem zt_e18_84 : zt_eOK "ColumnVaultModel" (300, 1, 16, 0, 8087) := ⟨_, "ColumnVaultModel", rfl, by decide, (zt_inN (j := 8) (k := 87) rfl rfl)⟩
set_option maxRecDepth 100000 in
theorem zt_e18_83 : zt_eOK "ColumnVaultModel" (297, 1, 16, 2, 8091) := ⟨_, "ColumnVaultModel", rfl, by decide, (zt_inN (j := 8) (k := 91) rfl rfl)⟩
set_option maxRecDepth 100000 in
theorem zt_e18_82 : zt_eOK "ColumnVaultModel" (294, 6, 292, 0, 8136) := ⟨_, rfl, (zt_in (j := 8) (k := 136) rfl rfl)⟩
set_option maxRecDepth 100000 in
theorem zt_e18_81 : zt_eOK "ColumnVaultModel" (291, 0, 18, 11, 7038) := ⟨_, "ColumnVaultModel", rfl, by decide, (zt_in (j := 7) (k := 38) rfl rfl), Or.inl rfl⟩
set_option maxRecDepth 100000 in
theorem zt_e18_80 : zt_eOK "ColumnVaultModel" (288, 4, 291, 0, 8131) := ⟨_, rfl, (zt_in (j := 8) (k := 131) rfl rfl)⟩
set_option maxRecDepth 100000 in
theorem zt_e18_79 : zt_eOK "ColumnVaultModel" (287, 13, 610, 1, 8151) := ⟨"missing", zt_ch_in (j := 8) (List.mem_of_getElem? (i := 151) rfl), fun _ => List.mem_of_getElem? (i := 5) rfl⟩
set_option maxRecDepth 100000 in
theorem zt_e18_78 : zt_eOK "ColumnVaultModel" (286, 13, 608, 1, 8150) := ⟨"in", zt_ch_in (j := 8) (List.mem_of_getElem? (i := 150) rfl), fun _ => List.mem_of_getElem? (i := 4) rfl⟩
set_option maxRecDepth 100000 in
theorem zt_e18_77 : zt_eOK "ColumnVaultModel" (282, 6, 293, 0, 8141) := ⟨_, rfl, (zt_in (j := 8) (k := 141) rfl rfl)⟩
set_option maxRecDepth 100000 in
theorem zt_e18_76 : zt_eOK "ColumnVaultModel" (280, 13, 606, 1, 8140) := ⟨"to", zt_ch_in (j := 8) (List.mem_of_getElem? (i := 140) rfl), fun _ => List.mem_of_getElem? (i := 3) rfl⟩
set_option maxRecDepth 100000 in
theorem zt_e18_75 : zt_eOK "ColumnVaultModel" (277, 4, 294, 0, 8147) := ⟨_, rfl, (zt_in (j := 8) (k := 147) rfl rfl)⟩
set_option maxRecDepth 100000 in
theorem zt_e18_74 : zt_eOK "ColumnVaultModel" (273, 6, 130, 0, 8146) := ⟨_, rfl, (zt_in (j := 8) (k := 146) rfl rfl)⟩
set_option maxRecDepth 100000 in
theorem zt_e18_73 : zt_eOK "ColumnVaultModel" (268, 6, 128, 0, 8145) := ⟨_, rfl, (zt_in (j := 8) (k := 145) rfl rfl)⟩
set_option maxRecDepth 100000 in
theorem zt_e18_72 : zt_eOK "ColumnVaultModel" (265, 0, 18, 8, 7035) := ⟨_, "ColumnVaultModel", rfl, by decide, (zt_in (j := 7) (k := 35) rfl rfl), Or.inl rfl⟩
set_option maxRecDepth 100000 in
theorem zt_e18_71 : zt_eOK "ColumnVaultModel" (261, 6, 288, 0, 8119) := ⟨_, rfl, (zt_in (j := 8) (k := 119) rfl rfl)⟩
set_option maxRecDepth 100000 in
theorem zt_e18_70 : zt_eOK "ColumnVaultModel" (258, 6, 290, 0, 8127) := ⟨_, rfl, (zt_in (j := 8) (k := 127) rfl rfl)⟩
set_option maxRecDepth 100000 in
theorem zt_e18_69 : zt_eOK "ColumnVaultModel" (254, 6, 289, 0, 8123) := ⟨_, rfl, (zt_in (j := 8) (k := 123) rfl rfl)⟩
set_option maxRecDepth 100000 in
theorem zt_e18_68 : zt_eOK "ColumnVaultModel" (251, 6, 287, 0, 8115) := ⟨_, rfl, (zt_in (j := 8) (k := 115) rfl rfl)⟩
set_option maxRecDepth 100000 in
theorem zt_e18_67 : zt_eOK "ColumnVaultModel" (248, 6, 285, 0, 8107) := ⟨_, rfl, (zt_in (j := 8) (k := 107) rfl rfl)⟩
set_option maxRecDepth 100000 in
theorem zt_e18_66 : zt_eOK "ColumnVaultModel" (245, 6, 284, 0, 8103) := ⟨_, rfl, (zt_in (j := 8) (k := 103) rfl rfl)⟩
set_option maxRecDepth 100000 in
theorem zt_e18_65 : zt_eOK "ColumnVaultModel" (242, 6, 282, 0, 8074) := ⟨_, rfl, (zt_in (j := 8) (k := 74) rfl rfl)⟩
set_option maxRecDepth 100000 in
theorem zt_e18_64 : zt_eOK "ColumnVaultModel" (239, 1, 16, 1, 8089) := ⟨_, "ColumnVaultModel", rfl, by decide, (zt_inN (j := 8) (k := 89) rfl rfl)⟩
set_option maxRecDepth 100000 in
theorem zt_e18_63 : zt_eOK "ColumnVaultModel" (237, 8, 283, 0, 8080) := ⟨_, rfl, (zt_in (j := 8) (k := 80) rfl rfl)⟩
set_option maxRecDepth 100000 in
theorem zt_e18_62 : zt_eOK "ColumnVaultModel" (234, 0, 18, 7, 7034) := ⟨_, "ColumnVaultModel", rfl, by decide, (zt_in (j := 7) (k := 34) rfl rfl), Or.inl rfl⟩
set_option maxRecDepth 100000 in
theorem zt_e18_61 : zt_eOK "ColumnVaultModel" (231, 6, 286, 0, 8111) := ⟨_, rfl, (zt_in (j := 8) (k := 111) rfl rfl)⟩
set_option maxRecDepth 100000 in
theorem zt_e18_60 : zt_eOK "ColumnVaultModel" (228, 0, 18, 6, 7033) := ⟨_, "ColumnVaultModel", rfl, by decide, (zt_in (j := 7) (k := 33) rfl rfl), Or.inl rfl⟩
set_option maxRecDepth 100000 in
theorem zt_e18_59 : zt_eOK "ColumnVaultModel" (221, 0, 18, 5, 7032) := ⟨_, "ColumnVaultModel", rfl, by decide, (zt_in (j := 7) (k := 32) rfl rfl), Or.inl rfl⟩
set_option maxRecDepth 100000 in
theorem zt_e18_58 : zt_eOK "ColumnVaultModel" (218, 0, 18, 10, 7037) := ⟨_, "ColumnVaultModel", rfl, by decide, (zt_in (j := 7) (k := 37) rfl rfl), Or.inl rfl⟩
set_option maxRecDepth 100000 in
theorem zt_e18_57 : zt_eOK "ColumnVaultModel" (215, 0, 18, 9, 7036) := ⟨_, "ColumnVaultModel", rfl, by decide, (zt_in (j := 7) (k := 36) rfl rfl), Or.inl rfl⟩
set_option maxRecDepth 100000 in
theorem zt_e18_56 : zt_eOK "ColumnVaultModel" (211, 6, 260, 0, 8211) := ⟨_, rfl, (zt_in (j := 8) (k := 211) rfl rfl)⟩
set_option maxRecDepth 100000 in
theorem zt_e18_55 : zt_eOK "ColumnVaultModel" (207, 11, 262, 4, 8209) := ⟨_, rfl, (zt_in (j := 8) (k := 209) rfl rfl)⟩
set_option maxRecDepth 100000 in
theorem zt_e18_54 : zt_eOK "ColumnVaultModel" (203, 19, 0, 0, 8210) := (zt_in (j := 8) (k := 210) rfl rfl)
set_option maxRecDepth 100000 in
theorem zt_e18_53 : zt_eOK "ColumnVaultModel" (202, 4, 248, 0, 8207) := ⟨_, rfl, (zt_in (j := 8) (k := 207) rfl rfl)⟩
set_option maxRecDepth 100000 in
theorem zt_e18_52 : zt_eOK "ColumnVaultModel" (199, 1, 17, 3, 6142) := ⟨_, "ColumnVaultModel", rfl, by decide, (zt_inN (j := 6) (k := 142) rfl rfl)⟩
set_option maxRecDepth 100000 in
theorem zt_e18_51 : zt_eOK "ColumnVaultModel" (194, 2, 16, 999, 8078) := ⟨"ColumnVaultModel$Node", (zt_in (j := 8) (k := 78) rfl rfl), Or.inr rfl, Or.inl rfl⟩
set_option maxRecDepth 100000 in
theorem zt_e18_50 : zt_eOK "ColumnVaultModel" (193, 6, 299, 0, 8180) := ⟨_, rfl, (zt_in (j := 8) (k := 180) rfl rfl)⟩
set_option maxRecDepth 100000 in
theorem zt_e18_49 : zt_eOK "ColumnVaultModel" (189, 6, 281, 0, 8070) := ⟨_, rfl, (zt_in (j := 8) (k := 70) rfl rfl)⟩
set_option maxRecDepth 100000 in
theorem zt_e18_48 : zt_eOK "ColumnVaultModel" (186, 6, 266, 0, 8065) := ⟨_, rfl, (zt_in (j := 8) (k := 65) rfl rfl)⟩
set_option maxRecDepth 100000 in
theorem zt_e18_47 : zt_eOK "ColumnVaultModel" (183, 6, 261, 0, 8060) := ⟨_, rfl, (zt_in (j := 8) (k := 60) rfl rfl)⟩
set_option maxRecDepth 100000 in
theorem zt_e18_46 : zt_eOK "ColumnVaultModel" (180, 6, 252, 0, 8055) := ⟨_, rfl, (zt_in (j := 8) (k := 55) rfl rfl)⟩
set_option maxRecDepth 100000 in
theorem zt_e18_45 : zt_eOK "ColumnVaultModel" (177, 1, 17, 2, 6140) := ⟨_, "ColumnVaultModel", rfl, by decide, (zt_inN (j := 6) (k := 140) rfl rfl)⟩
set_option maxRecDepth 100000 in
theorem zt_e18_44 : zt_eOK "ColumnVaultModel" (173, 6, 273, 0, 8033) := ⟨_, rfl, (zt_in (j := 8) (k := 33) rfl rfl)⟩
set_option maxRecDepth 100000 in
theorem zt_e18_43 : zt_eOK "ColumnVaultModel" (169, 4, 267, 0, 8009) := ⟨_, rfl, (zt_in (j := 8) (k := 9) rfl rfl)⟩
set_option maxRecDepth 100000 in
theorem zt_e18_42 : zt_eOK "ColumnVaultModel" (166, 6, 265, 0, 8000) := ⟨_, rfl, (zt_in (j := 8) (k := 0) rfl rfl)⟩
set_option maxRecDepth 100000 in
theorem zt_e18_41 : zt_eOK "ColumnVaultModel" (161, 6, 268, 0, 8012) := ⟨_, rfl, (zt_in (j := 8) (k := 12) rfl rfl)⟩
set_option maxRecDepth 100000 in
theorem zt_e18_40 : zt_eOK "ColumnVaultModel" (158, 6, 259, 0, 7208) := ⟨_, rfl, (zt_in (j := 7) (k := 208) rfl rfl)⟩
set_option maxRecDepth 100000 in
theorem zt_e18_39 : zt_eOK "ColumnVaultModel" (154, 6, 257, 0, 7200) := ⟨_, rfl, (zt_in (j := 7) (k := 200) rfl rfl)⟩
set_option maxRecDepth 100000 in
theorem zt_e18_38 : zt_eOK "ColumnVaultModel" (150, 4, 255, 0, 7190) := ⟨_, rfl, (zt_in (j := 7) (k := 190) rfl rfl)⟩
set_option maxRecDepth 100000 in
theorem zt_e18_37 : zt_eOK "ColumnVaultModel" (145, 6, 254, 0, 7185) := ⟨_, rfl, (zt_in (j := 7) (k := 185) rfl rfl)⟩
set_option maxRecDepth 100000 in
theorem zt_e18_36 : zt_eOK "ColumnVaultModel" (143, 18, 2, 0, 7180) := ⟨"[J", _, (zt_in (j := 7) (k := 180) rfl rfl), rfl, by decide +kernel⟩
set_option maxRecDepth 100000 in
theorem zt_e18_35 : zt_eOK "ColumnVaultModel" (140, 11, 222, 1, 7179) := ⟨_, rfl, (zt_in (j := 7) (k := 179) rfl rfl)⟩
set_option maxRecDepth 100000 in
theorem zt_e18_34 : zt_eOK "ColumnVaultModel" (138, 1, 17, 1, 6138) := ⟨_, "ColumnVaultModel", rfl, by decide, (zt_inN (j := 6) (k := 138) rfl rfl)⟩
set_option maxRecDepth 100000 in
theorem zt_e18_33 : zt_eOK "ColumnVaultModel" (135, 6, 251, 0, 7170) := ⟨_, rfl, (zt_in (j := 7) (k := 170) rfl rfl)⟩
set_option maxRecDepth 100000 in
theorem zt_e18_32 : zt_eOK "ColumnVaultModel" (125, 6, 250, 0, 7161) := ⟨_, rfl, (zt_in (j := 7) (k := 161) rfl rfl)⟩
set_option maxRecDepth 100000 in
theorem zt_e18_31 : zt_eOK "ColumnVaultModel" (122, 6, 247, 0, 7144) := ⟨_, rfl, (zt_in (j := 7) (k := 144) rfl rfl)⟩
set_option maxRecDepth 100000 in
theorem zt_e18_30 : zt_eOK "ColumnVaultModel" (118, 6, 242, 0, 7115) := ⟨_, rfl, (zt_in (j := 7) (k := 115) rfl rfl)⟩
set_option maxRecDepth 100000 in
theorem zt_e18_29 : zt_eOK "ColumnVaultModel" (113, 2, 2, 999, 8054) := ⟨"java/lang/Integer", (zt_in (j := 8) (k := 54) rfl rfl), Or.inr rfl, Or.inl rfl⟩
set_option maxRecDepth 100000 in
theorem zt_e18_28 : zt_eOK "ColumnVaultModel" (112, 4, 239, 0, 7095) := ⟨_, rfl, (zt_in (j := 7) (k := 95) rfl rfl)⟩
set_option maxRecDepth 100000 in
theorem zt_e18_27 : zt_eOK "ColumnVaultModel" (109, 1, 17, 0, 6136) := ⟨_, "ColumnVaultModel", rfl, by decide, (zt_inN (j := 6) (k := 136) rfl rfl)⟩
set_option maxRecDepth 100000 in
theorem zt_e18_26 : zt_eOK "ColumnVaultModel" (105, 6, 238, 0, 7091) := ⟨_, rfl, (zt_in (j := 7) (k := 91) rfl rfl)⟩
set_option maxRecDepth 100000 in
theorem zt_e18_25 : zt_eOK "ColumnVaultModel" (102, 6, 246, 0, 7140) := ⟨_, rfl, (zt_in (j := 7) (k := 140) rfl rfl)⟩
set_option maxRecDepth 100000 in
theorem zt_e18_24 : zt_eOK "ColumnVaultModel" (99, 6, 237, 0, 7087) := ⟨_, rfl, (zt_in (j := 7) (k := 87) rfl rfl)⟩
set_option maxRecDepth 100000 in
theorem zt_e18_23 : zt_eOK "ColumnVaultModel" (95, 4, 235, 0, 7080) := ⟨_, rfl, (zt_in (j := 7) (k := 80) rfl rfl)⟩
set_option maxRecDepth 100000 in
theorem zt_e18_22 : zt_eOK "ColumnVaultModel" (92, 18, 4, 0, 7135) := ⟨"[LColumnVaultModel$Table;", _, (zt_in (j := 7) (k := 135) rfl rfl), rfl, by decide +kernel⟩
set_option maxRecDepth 100000 in
theorem zt_e18_21 : zt_eOK "ColumnVaultModel" (88, 11, 243, 3, 7122) := ⟨_, rfl, (zt_in (j := 7) (k := 122) rfl rfl)⟩
set_option maxRecDepth 100000 in
theorem zt_e18_20 : zt_eOK "ColumnVaultModel" (84, 11, 221, 0, 7120) := ⟨_, rfl, (zt_in (j := 7) (k := 120) rfl rfl)⟩
set_option maxRecDepth 100000 in
theorem zt_e18_19 : zt_eOK "ColumnVaultModel" (81, 0, 18, 3, 7030) := ⟨_, "ColumnVaultModel", rfl, by decide, (zt_in (j := 7) (k := 30) rfl rfl), Or.inl rfl⟩
set_option maxRecDepth 100000 in
theorem zt_e18_18 : zt_eOK "ColumnVaultModel" (77, 6, 220, 0, 6157) := ⟨_, rfl, (zt_in (j := 6) (k := 157) rfl rfl)⟩
set_option maxRecDepth 100000 in
theorem zt_e18_17 : zt_eOK "ColumnVaultModel" (72, 2, 999, 999, 9066) := ⟨"java/util/List", (zt_in (j := 9) (k := 66) rfl rfl), Or.inl rfl, Or.inl rfl⟩
set_option maxRecDepth 100000 in
theorem zt_e18_16 : zt_eOK "ColumnVaultModel" (71, 11, 225, 2, 7026) := ⟨_, rfl, (zt_in (j := 7) (k := 26) rfl rfl)⟩
set_option maxRecDepth 100000 in
theorem zt_e18_15 : zt_eOK "ColumnVaultModel" (67, 4, 219, 0, 6154) := ⟨_, rfl, (zt_in (j := 6) (k := 154) rfl rfl)⟩
set_option maxRecDepth 100000 in
theorem zt_e18_14 : zt_eOK "ColumnVaultModel" (64, 0, 18, 15, 7042) := ⟨_, "ColumnVaultModel", rfl, by decide, (zt_in (j := 7) (k := 42) rfl rfl), Or.inl rfl⟩
set_option maxRecDepth 100000 in
theorem zt_e18_13 : zt_eOK "ColumnVaultModel" (60, 0, 18, 13, 7040) := ⟨_, "ColumnVaultModel", rfl, by decide, (zt_in (j := 7) (k := 40) rfl rfl), Or.inl rfl⟩
set_option maxRecDepth 100000 in
theorem zt_e18_12 : zt_eOK "ColumnVaultModel" (57, 0, 18, 12, 7039) := ⟨_, "ColumnVaultModel", rfl, by decide, (zt_in (j := 7) (k := 39) rfl rfl), Or.inl rfl⟩
set_option maxRecDepth 100000 in
theorem zt_e18_11 : zt_eOK "ColumnVaultModel" (53, 0, 18, 4, 7031) := ⟨_, "ColumnVaultModel", rfl, by decide, (zt_in (j := 7) (k := 31) rfl rfl), Or.inl rfl⟩
set_option maxRecDepth 100000 in
theorem zt_e18_10 : zt_eOK "ColumnVaultModel" (49, 0, 18, 2, 7029) := ⟨_, "ColumnVaultModel", rfl, by decide, (zt_in (j := 7) (k := 29) rfl rfl), Or.inl rfl⟩
set_option maxRecDepth 100000 in
theorem zt_e18_9 : zt_eOK "ColumnVaultModel" (48, 8, 216, 0, 6153) := ⟨_, rfl, (zt_in (j := 6) (k := 153) rfl rfl)⟩
set_option maxRecDepth 100000 in
theorem zt_e18_8 : zt_eOK "ColumnVaultModel" (46, 2, 4, 999, 6152) := ⟨"java/util/ArrayList", (zt_in (j := 6) (k := 152) rfl rfl), Or.inr rfl, Or.inl rfl⟩
set_option maxRecDepth 100000 in
theorem zt_e18_7 : zt_eOK "ColumnVaultModel" (42, 0, 18, 1, 7028) := ⟨_, "ColumnVaultModel", rfl, by decide, (zt_in (j := 7) (k := 28) rfl rfl), Or.inl rfl⟩
set_option maxRecDepth 100000 in
theorem zt_e18_6 : zt_eOK "ColumnVaultModel" (41, 9, 215, 0, 6105) := ⟨_, "ColumnVaultModel", rfl, (zt_inN (j := 6) (k := 105) rfl rfl)⟩
set_option maxRecDepth 100000 in
theorem zt_e18_5 : zt_eOK "ColumnVaultModel" (39, 2, 17, 4, 6102) := ⟨"ColumnVaultModel$Table", (zt_in (j := 6) (k := 102) rfl rfl), Or.inr rfl, Or.inr rfl⟩
set_option maxRecDepth 100000 in
theorem zt_e18_4 : zt_eOK "ColumnVaultModel" (33, 10, 0, 0, 6101) := (zt_in (j := 6) (k := 101) rfl rfl)
set_option maxRecDepth 100000 in
theorem zt_e18_3 : zt_eOK "ColumnVaultModel" (29, 4, 276, 0, 8046) := ⟨_, rfl, (zt_in (j := 8) (k := 46) rfl rfl)⟩
set_option maxRecDepth 100000 in
theorem zt_e18_2 : zt_eOK "ColumnVaultModel" (23, 4, 256, 0, 7193) := ⟨_, rfl, (zt_in (j := 7) (k := 193) rfl rfl)⟩
set_option maxRecDepth 100000 in
theorem zt_e18_1 : zt_eOK "ColumnVaultModel" (13, 4, 236, 0, 7084) := ⟨_, rfl, (zt_in (j := 7) (k := 84) rfl rfl)⟩
set_option maxRecDepth 100000 in
theorem zt_e18_0 : zt_eOK "ColumnVaultModel" (3, 0, 18, 0, 7027) := ⟨_, "ColumnVaultModel", rfl, by decide, (zt_in (j := 7) (k := 27) rfl rfl), Or.inl rfl⟩
theorem zt_pl18_ok : ∀ e ∈ zt_pl18, zt_eOK "ColumnVaultModel" e := List.forall_mem_cons.mpr ⟨zt_e18_0, List.forall_mem_cons.mpr ⟨zt_e18_1, List.forall_mem_cons.mpr ⟨zt_e18_2, List.forall_mem_cons.mpr ⟨zt_e18_3, List.forall_mem_cons.mpr ⟨zt_e18_4, List.forall_mem_cons.mpr ⟨zt_e18_5, List.forall_mem_cons.mpr ⟨zt_e18_6, List.forall_mem_cons.mpr ⟨zt_e18_7, List.forall_mem_cons.mpr ⟨zt_e18_8, List.forall_mem_cons.mpr ⟨zt_e18_9, List.forall_mem_cons.mpr ⟨zt_e18_10, List.forall_mem_cons.mpr ⟨zt_e18_11, List.forall_mem_cons.mpr ⟨zt_e18_12, List.forall_mem_cons.mpr ⟨zt_e18_13, List.forall_mem_cons.mpr ⟨zt_e18_14, List.forall_mem_cons.mpr ⟨zt_e18_15, List.forall_mem_cons.mpr ⟨zt_e18_16, List.forall_mem_cons.mpr ⟨zt_e18_17, List.forall_mem_cons.mpr ⟨zt_e18_18, List.forall_mem_cons.mpr ⟨zt_e18_19, List.forall_mem_cons.mpr ⟨zt_e18_20, List.forall_mem_cons.mpr ⟨zt_e18_21, List.forall_mem_cons.mpr ⟨zt_e18_22, List.forall_mem_cons.mpr ⟨zt_e18_23, List.forall_mem_cons.mpr ⟨zt_e18_24, List.forall_mem_cons.mpr ⟨zt_e18_25, List.forall_mem_cons.mpr ⟨zt_e18_26, List.forall_mem_cons.mpr ⟨zt_e18_27, List.forall_mem_cons.mpr ⟨zt_e18_28, List.forall_mem_cons.mpr ⟨zt_e18_29, List.forall_mem_cons.mpr ⟨zt_e18_30, List.forall_mem_cons.mpr ⟨zt_e18_31, List.forall_mem_cons.mpr ⟨zt_e18_32, List.forall_mem_cons.mpr ⟨zt_e18_33, List.forall_mem_cons.mpr ⟨zt_e18_34, List.forall_mem_cons.mpr ⟨zt_e18_35, List.forall_mem_cons.mpr ⟨zt_e18_36, List.forall_mem_cons.mpr ⟨zt_e18_37, List.forall_mem_cons.mpr ⟨zt_e18_38, List.forall_mem_cons.mpr ⟨zt_e18_39, List.forall_mem_cons.mpr ⟨zt_e18_40, List.forall_mem_cons.mpr ⟨zt_e18_41, List.forall_mem_cons.mpr ⟨zt_e18_42, List.forall_mem_cons.mpr ⟨zt_e18_43, List.forall_mem_cons.mpr ⟨zt_e18_44, List.forall_mem_cons.mpr ⟨zt_e18_45, List.forall_mem_cons.mpr ⟨zt_e18_46, List.forall_mem_cons.mpr ⟨zt_e18_47, List.forall_mem_cons.mpr ⟨zt_e18_48, List.forall_mem_cons.mpr ⟨zt_e18_49, List.forall_mem_cons.mpr ⟨zt_e18_50, List.forall_mem_cons.mpr ⟨zt_e18_51, List.forall_mem_cons.mpr ⟨zt_e18_52, List.forall_mem_cons.mpr ⟨zt_e18_53, List.forall_mem_cons.mpr ⟨zt_e18_54, List.forall_mem_cons.mpr ⟨zt_e18_55, List.forall_mem_cons.mpr ⟨zt_e18_56, List.forall_mem_cons.mpr ⟨zt_e18_57, List.forall_mem_cons.mpr ⟨zt_e18_58, List.forall_mem_cons.mpr ⟨zt_e18_59, List.forall_mem_cons.mpr ⟨zt_e18_60, List.forall_mem_cons.mpr ⟨zt_e18_61, List.forall_mem_cons.mpr ⟨zt_e18_62, List.forall_mem_cons.mpr ⟨zt_e18_63, List.forall_mem_cons.mpr ⟨zt_e18_64, List.forall_mem_cons.mpr ⟨zt_e18_65, List.forall_mem_cons.mpr ⟨zt_e18_66, List.forall_mem_cons.mpr ⟨zt_e18_67, List.forall_mem_cons.mpr ⟨zt_e18_68, List.forall_mem_cons.mpr ⟨zt_e18_69, List.forall_mem_cons.mpr ⟨zt_e18_70, List.forall_mem_cons.mpr ⟨zt_e18_71, List.forall_mem_cons.mpr ⟨zt_e18_72, List.forall_mem_cons.mpr ⟨zt_e18_73, List.forall_mem_cons.mpr ⟨zt_e18_74, List.forall_mem_cons.mpr ⟨zt_e18_75, List.forall_mem_cons.mpr ⟨zt_e18_76, List.forall_mem_cons.mpr ⟨zt_e18_77, List.forall_mem_cons.mpr ⟨zt_e18_78, List.forall_mem_cons.mpr ⟨zt_e18_79, List.forall_mem_cons.mpr ⟨zt_e18_80, List.forall_mem_cons.mpr ⟨zt_e18_81, List.forall_mem_cons.mpr ⟨zt_e18_82, List.forall_mem_cons.mpr ⟨zt_e18_83, List.forall_mem_cons.mpr ⟨zt_e18_84, List.forall_mem_cons.mpr ⟨zt_e18_85, List.forall_mem_cons.mpr ⟨zt_e18_86, List.forall_mem_cons.mpr ⟨zt_e18_87, List.forall_mem_cons.mpr ⟨zt_e18_88, List.forall_mem_cons.mpr ⟨zt_e18_89, List.forall_mem_cons.mpr ⟨zt_e18_90, List.forall_mem_cons.mpr ⟨zt_e18_91, List.forall_mem_cons.mpr ⟨zt_e18_92, List.forall_mem_cons.mpr ⟨zt_e18_93, List.forall_mem_cons.mpr ⟨zt_e18_94, List.forall_mem_cons.mpr ⟨zt_e18_95, List.forall_mem_cons.mpr ⟨zt_e18_96, List.forall_mem_cons.mpr ⟨zt_e18_97, List.forall_mem_cons.mpr ⟨zt_e18_98, List.forall_mem_cons.mpr ⟨zt_e18_99, List.forall_mem_cons.mpr ⟨zt_e18_100, List.forall_mem_cons.mpr ⟨zt_e18_101, List.forall_mem_cons.mpr ⟨zt_e18_102, List.forall_mem_cons.mpr ⟨zt_e18_103, List.forall_mem_cons.mpr ⟨zt_e18_104, List.forall_mem_cons.mpr ⟨zt_e18_105, List.forall_mem_cons.mpr ⟨zt_e18_106, List.forall_mem_cons.mpr ⟨zt_e18_107, List.forall_mem_cons.mpr ⟨zt_e18_108, List.forall_mem_cons.mpr ⟨zt_e18_109, List.forall_mem_cons.mpr ⟨zt_e18_110, List.forall_mem_cons.mpr ⟨zt_e18_111, List.forall_mem_cons.mpr ⟨zt_e18_112, List.forall_mem_cons.mpr ⟨zt_e18_113, List.forall_mem_cons.mpr ⟨zt_e18_114, List.forall_mem_cons.mpr ⟨zt_e18_115, List.forall_mem_cons.mpr ⟨zt_e18_116, List.forall_mem_cons.mpr ⟨zt_e18_117, List.forall_mem_cons.mpr ⟨zt_e18_118, List.forall_mem_cons.mpr ⟨zt_e18_119, List.forall_mem_cons.mpr ⟨zt_e18_120, List.forall_mem_cons.mpr ⟨zt_e18_121, List.forall_mem_cons.mpr ⟨zt_e18_122, fun _ h => absurd h List.not_mem_nil⟩⟩⟩⟩⟩⟩⟩⟩⟩⟩⟩⟩⟩⟩⟩⟩⟩⟩⟩⟩⟩⟩⟩⟩⟩⟩⟩⟩⟩⟩⟩⟩⟩⟩⟩⟩⟩⟩⟩⟩⟩⟩⟩⟩⟩⟩⟩⟩⟩⟩⟩⟩⟩⟩⟩⟩⟩⟩⟩⟩⟩⟩⟩⟩⟩⟩⟩⟩⟩⟩⟩⟩⟩⟩⟩⟩⟩⟩⟩⟩⟩⟩⟩⟩⟩⟩⟩⟩⟩⟩⟩⟩⟩⟩⟩⟩⟩⟩⟩⟩⟩⟩⟩⟩⟩⟩⟩⟩⟩⟩⟩⟩⟩⟩⟩⟩⟩⟩⟩⟩⟩⟩⟩
set_option maxRecDepth 100000 in
theorem zt_lc18_ok : ∀ e ∈ zt_lc18, Cond.constantLong "ColumnVaultModel" e.1 e.2.1 ∈ zt_good := List.forall_mem_cons.mpr ⟨(zt_in (j := 7) (k := 83) rfl rfl), List.forall_mem_cons.mpr ⟨(zt_in (j := 7) (k := 165) rfl rfl), List.forall_mem_cons.mpr ⟨(zt_in (j := 7) (k := 166) rfl rfl), List.forall_mem_cons.mpr ⟨(zt_in (j := 7) (k := 167) rfl rfl), List.forall_mem_cons.mpr ⟨(zt_in (j := 7) (k := 168) rfl rfl), List.forall_mem_cons.mpr ⟨(zt_in (j := 7) (k := 169) rfl rfl), List.forall_mem_cons.mpr ⟨(zt_in (j := 7) (k := 189) rfl rfl), List.forall_mem_cons.mpr ⟨(zt_in (j := 7) (k := 196) rfl rfl), List.forall_mem_cons.mpr ⟨(zt_in (j := 7) (k := 197) rfl rfl), List.forall_mem_cons.mpr ⟨(zt_in (j := 7) (k := 198) rfl rfl), List.forall_mem_cons.mpr ⟨(zt_in (j := 7) (k := 199) rfl rfl), List.forall_mem_cons.mpr ⟨(zt_in (j := 7) (k := 239) rfl rfl), List.forall_mem_cons.mpr ⟨(zt_in (j := 8) (k := 49) rfl rfl), List.forall_mem_cons.mpr ⟨(zt_in (j := 8) (k := 134) rfl rfl), List.forall_mem_cons.mpr ⟨(zt_in (j := 8) (k := 135) rfl rfl), List.forall_mem_cons.mpr ⟨(zt_in (j := 8) (k := 160) rfl rfl), List.forall_mem_cons.mpr ⟨(zt_in (j := 8) (k := 161) rfl rfl), List.forall_mem_cons.mpr ⟨(zt_in (j := 9) (k := 12) rfl rfl), List.forall_mem_cons.mpr ⟨(zt_in (j := 10) (k := 78) rfl rfl), List.forall_mem_cons.mpr ⟨(zt_in (j := 10) (k := 82) rfl rfl), fun _ h => absurd h List.not_mem_nil⟩⟩⟩⟩⟩⟩⟩⟩⟩⟩⟩⟩⟩⟩⟩⟩⟩⟩⟩⟩
theorem zt_pl19_ok : ∀ e ∈ zt_pl19, zt_eOK "java/lang/IndexOutOfBoundsException" e := fun _ h => absurd h List.not_mem_nil
set_option maxRecDepth 100000 in
theorem zt_lc19_ok : ∀ e ∈ zt_lc19, Cond.constantLong "java/lang/IndexOutOfBoundsException" e.1 e.2.1 ∈ zt_good := fun _ h => absurd h List.not_mem_nil
theorem zt_pl20_ok : ∀ e ∈ zt_pl20, zt_eOK "java/lang/IllegalArgumentException" e := fun _ h => absurd h List.not_mem_nil
set_option maxRecDepth 100000 in
theorem zt_lc20_ok : ∀ e ∈ zt_lc20, Cond.constantLong "java/lang/IllegalArgumentException" e.1 e.2.1 ∈ zt_good := fun _ h => absurd h List.not_mem_nil
theorem zt_pl21_ok : ∀ e ∈ zt_pl21, zt_eOK "java/lang/IllegalStateException" e := fun _ h => absurd h List.not_mem_nil
set_option maxRecDepth 100000 in
theorem zt_lc21_ok : ∀ e ∈ zt_lc21, Cond.constantLong "java/lang/IllegalStateException" e.1 e.2.1 ∈ zt_good := fun _ h => absurd h List.not_mem_nil
theorem zt_pl22_ok : ∀ e ∈ zt_pl22, zt_eOK "java/util/NoSuchElementException" e := fun _ h => absurd h List.not_mem_nil
set_option maxRecDepth 100000 in
theorem zt_lc22_ok : ∀ e ∈ zt_lc22, Cond.constantLong "java/util/NoSuchElementException" e.1 e.2.1 ∈ zt_good := fun _ h => absurd h List.not_mem_nil
set_option maxRecDepth 100000 in
theorem zt_e23_123 : zt_eOK "ColumnVaultLaw" (287, 6, 395, 0, 10156) := ⟨_, rfl, (zt_in (j := 10) (k := 156) rfl rfl)⟩
set_option maxRecDepth 100000 in
theorem zt_e23_122 : zt_eOK "ColumnVaultLaw" (284, 4, 211, 0, 6085) := ⟨_, rfl, (zt_in (j := 6) (k := 85) rfl rfl)⟩
set_option maxRecDepth 100000 in
theorem zt_e23_121 : zt_eOK "ColumnVaultLaw" (283, 6, 394, 0, 10152) := ⟨_, rfl, (zt_in (j := 10) (k := 152) rfl rfl)⟩
set_option maxRecDepth 100000 in
theorem zt_e23_120 : zt_eOK "ColumnVaultLaw" (280, 4, 209, 0, 6078) := ⟨_, rfl, (zt_in (j := 6) (k := 78) rfl rfl)⟩
set_option maxRecDepth 100000 in
theorem zt_e23_119 : zt_eOK "ColumnVaultLaw" (279, 6, 390, 0, 10138) := ⟨_, rfl, (zt_in (j := 10) (k := 138) rfl rfl)⟩
set_option maxRecDepth 100000 in
theorem zt_e23_118 : zt_eOK "ColumnVaultLaw" (277, 4, 200, 0, 6025) := ⟨_, rfl, (zt_in (j := 6) (k := 25) rfl rfl)⟩
set_option maxRecDepth 100000 in
theorem zt_e23_117 : zt_eOK "ColumnVaultLaw" (276, 6, 385, 0, 10122) := ⟨_, rfl, (zt_in (j := 10) (k := 122) rfl rfl)⟩
set_option maxRecDepth 100000 in
theorem zt_e23_116 : zt_eOK "ColumnVaultLaw" (274, 4, 192, 0, 5231) := ⟨_, rfl, (zt_in (j := 5) (k := 231) rfl rfl)⟩
set_option maxRecDepth 100000 in
theorem zt_e23_115 : zt_eOK "ColumnVaultLaw" (273, 6, 384, 0, 10118) := ⟨_, rfl, (zt_in (j := 10) (k := 118) rfl rfl)⟩
set_option maxRecDepth 100000 in
theorem zt_e23_114 : zt_eOK "ColumnVaultLaw" (270, 4, 189, 0, 5218) := ⟨_, rfl, (zt_in (j := 5) (k := 218) rfl rfl)⟩
set_option maxRecDepth 100000 in
theorem zt_e23_113 : zt_eOK "ColumnVaultLaw" (269, 6, 382, 0, 10111) := ⟨_, rfl, (zt_in (j := 10) (k := 111) rfl rfl)⟩
set_option maxRecDepth 100000 in
theorem zt_e23_112 : zt_eOK "ColumnVaultLaw" (266, 4, 187, 0, 5211) := ⟨_, rfl, (zt_in (j := 5) (k := 211) rfl rfl)⟩
set_option maxRecDepth 100000 in
theorem zt_e23_111 : zt_eOK "ColumnVaultLaw" (265, 6, 381, 0, 10107) := ⟨_, rfl, (zt_in (j := 10) (k := 107) rfl rfl)⟩
set_option maxRecDepth 100000 in
theorem zt_e23_110 : zt_eOK "ColumnVaultLaw" (263, 4, 185, 0, 5204) := ⟨_, rfl, (zt_in (j := 5) (k := 204) rfl rfl)⟩
set_option maxRecDepth 100000 in
theorem zt_e23_109 : zt_eOK "ColumnVaultLaw" (262, 6, 380, 0, 10103) := ⟨_, rfl, (zt_in (j := 10) (k := 103) rfl rfl)⟩
set_option maxRecDepth 100000 in
theorem zt_e23_108 : zt_eOK "ColumnVaultLaw" (260, 4, 183, 0, 5193) := ⟨_, rfl, (zt_in (j := 5) (k := 193) rfl rfl)⟩
set_option maxRecDepth 100000 in
theorem zt_e23_107 : zt_eOK "ColumnVaultLaw" (259, 6, 379, 0, 10099) := ⟨_, rfl, (zt_in (j := 10) (k := 99) rfl rfl)⟩
set_option maxRecDepth 100000 in
theorem zt_e23_106 : zt_eOK "ColumnVaultLaw" (257, 4, 179, 0, 5178) := ⟨_, rfl, (zt_in (j := 5) (k := 178) rfl rfl)⟩
set_option maxRecDepth 100000 in
theorem zt_e23_105 : zt_eOK "ColumnVaultLaw" (256, 6, 378, 0, 10095) := ⟨_, rfl, (zt_in (j := 10) (k := 95) rfl rfl)⟩
set_option maxRecDepth 100000 in
theorem zt_e23_104 : zt_eOK "ColumnVaultLaw" (254, 4, 177, 0, 5171) := ⟨_, rfl, (zt_in (j := 5) (k := 171) rfl rfl)⟩
set_option maxRecDepth 100000 in
theorem zt_e23_103 : zt_eOK "ColumnVaultLaw" (253, 6, 371, 0, 10063) := ⟨_, rfl, (zt_in (j := 10) (k := 63) rfl rfl)⟩
set_option maxRecDepth 100000 in
theorem zt_e23_102 : zt_eOK "ColumnVaultLaw" (251, 4, 172, 0, 5133) := ⟨_, rfl, (zt_in (j := 5) (k := 133) rfl rfl)⟩
set_option maxRecDepth 100000 in
theorem zt_e23_101 : zt_eOK "ColumnVaultLaw" (250, 6, 370, 0, 10059) := ⟨_, rfl, (zt_in (j := 10) (k := 59) rfl rfl)⟩
set_option maxRecDepth 100000 in
theorem zt_e23_100 : zt_eOK "ColumnVaultLaw" (248, 4, 164, 0, 5097) := ⟨_, rfl, (zt_in (j := 5) (k := 97) rfl rfl)⟩
set_option maxRecDepth 100000 in
theorem zt_e23_99 : zt_eOK "ColumnVaultLaw" (247, 6, 321, 0, 9059) := ⟨_, rfl, (zt_in (j := 9) (k := 59) rfl rfl)⟩
set_option maxRecDepth 100000 in
theorem zt_e23_98 : zt_eOK "ColumnVaultLaw" (245, 4, 159, 0, 5074) := ⟨_, rfl, (zt_in (j := 5) (k := 74) rfl rfl)⟩
set_option maxRecDepth 100000 in
theorem zt_e23_97 : zt_eOK "ColumnVaultLaw" (244, 6, 320, 0, 9054) := ⟨_, rfl, (zt_in (j := 9) (k := 54) rfl rfl)⟩
set_option maxRecDepth 100000 in
theorem zt_e23_96 : zt_eOK "ColumnVaultLaw" (241, 4, 148, 0, 5006) := ⟨_, rfl, (zt_in (j := 5) (k := 6) rfl rfl)⟩
set_option maxRecDepth 100000 in
theorem zt_e23_95 : zt_eOK "ColumnVaultLaw" (240, 6, 319, 0, 9049) := ⟨_, rfl, (zt_in (j := 9) (k := 49) rfl rfl)⟩
set_option maxRecDepth 100000 in
theorem zt_e23_94 : zt_eOK "ColumnVaultLaw" (238, 4, 145, 0, 4234) := ⟨_, rfl, (zt_in (j := 4) (k := 234) rfl rfl)⟩
set_option maxRecDepth 100000 in
theorem zt_e23_93 : zt_eOK "ColumnVaultLaw" (237, 6, 314, 0, 9024) := ⟨_, rfl, (zt_in (j := 9) (k := 24) rfl rfl)⟩
set_option maxRecDepth 100000 in
theorem zt_e23_92 : zt_eOK "ColumnVaultLaw" (235, 4, 139, 0, 4206) := ⟨_, rfl, (zt_in (j := 4) (k := 206) rfl rfl)⟩
set_option maxRecDepth 100000 in
theorem zt_e23_91 : zt_eOK "ColumnVaultLaw" (234, 6, 313, 0, 9017) := ⟨_, rfl, (zt_in (j := 9) (k := 17) rfl rfl)⟩
set_option maxRecDepth 100000 in
theorem zt_e23_90 : zt_eOK "ColumnVaultLaw" (232, 4, 125, 0, 4143) := ⟨_, rfl, (zt_in (j := 4) (k := 143) rfl rfl)⟩
set_option maxRecDepth 100000 in
theorem zt_e23_89 : zt_eOK "ColumnVaultLaw" (231, 6, 312, 0, 9013) := ⟨_, rfl, (zt_in (j := 9) (k := 13) rfl rfl)⟩
set_option maxRecDepth 100000 in
theorem zt_e23_88 : zt_eOK "ColumnVaultLaw" (228, 6, 10, 0, 1226) := ⟨_, rfl, (zt_in (j := 1) (k := 226) rfl rfl)⟩
set_option maxRecDepth 100000 in
theorem zt_e23_87 : zt_eOK "ColumnVaultLaw" (227, 6, 311, 0, 9008) := ⟨_, rfl, (zt_in (j := 9) (k := 8) rfl rfl)⟩
set_option maxRecDepth 100000 in
theorem zt_e23_86 : zt_eOK "ColumnVaultLaw" (224, 4, 120, 0, 4123) := ⟨_, rfl, (zt_in (j := 4) (k := 123) rfl rfl)⟩
set_option maxRecDepth 100000 in
theorem zt_e23_85 : zt_eOK "ColumnVaultLaw" (223, 6, 310, 0, 9004) := ⟨_, rfl, (zt_in (j := 9) (k := 4) rfl rfl)⟩
set_option maxRecDepth 100000 in
theorem zt_e23_84 : zt_eOK "ColumnVaultLaw" (221, 4, 118, 0, 4116) := ⟨_, rfl, (zt_in (j := 4) (k := 116) rfl rfl)⟩
set_option maxRecDepth 100000 in
theorem zt_e23_83 : zt_eOK "ColumnVaultLaw" (220, 6, 309, 0, 9000) := ⟨_, rfl, (zt_in (j := 9) (k := 0) rfl rfl)⟩
set_option maxRecDepth 100000 in
theorem zt_e23_82 : zt_eOK "ColumnVaultLaw" (218, 4, 116, 0, 4109) := ⟨_, rfl, (zt_in (j := 4) (k := 109) rfl rfl)⟩
set_option maxRecDepth 100000 in
theorem zt_e23_81 : zt_eOK "ColumnVaultLaw" (217, 6, 306, 0, 8225) := ⟨_, rfl, (zt_in (j := 8) (k := 225) rfl rfl)⟩
set_option maxRecDepth 100000 in
theorem zt_e23_80 : zt_eOK "ColumnVaultLaw" (214, 4, 113, 0, 4099) := ⟨_, rfl, (zt_in (j := 4) (k := 99) rfl rfl)⟩
set_option maxRecDepth 100000 in
theorem zt_e23_79 : zt_eOK "ColumnVaultLaw" (213, 6, 304, 0, 8216) := ⟨_, rfl, (zt_in (j := 8) (k := 216) rfl rfl)⟩
set_option maxRecDepth 100000 in
theorem zt_e23_78 : zt_eOK "ColumnVaultLaw" (211, 4, 111, 0, 4092) := ⟨_, rfl, (zt_in (j := 4) (k := 92) rfl rfl)⟩
set_option maxRecDepth 100000 in
theorem zt_e23_77 : zt_eOK "ColumnVaultLaw" (210, 6, 303, 0, 8212) := ⟨_, rfl, (zt_in (j := 8) (k := 212) rfl rfl)⟩
set_option maxRecDepth 100000 in
theorem zt_e23_76 : zt_eOK "ColumnVaultLaw" (208, 4, 109, 0, 4084) := ⟨_, rfl, (zt_in (j := 4) (k := 84) rfl rfl)⟩
set_option maxRecDepth 100000 in
theorem zt_e23_75 : zt_eOK "ColumnVaultLaw" (207, 6, 280, 0, 8066) := ⟨_, rfl, (zt_in (j := 8) (k := 66) rfl rfl)⟩
set_option maxRecDepth 100000 in
theorem zt_e23_74 : zt_eOK "ColumnVaultLaw" (205, 4, 73, 0, 3105) := ⟨_, rfl, (zt_in (j := 3) (k := 105) rfl rfl)⟩
set_option maxRecDepth 100000 in
theorem zt_e23_73 : zt_eOK "ColumnVaultLaw" (204, 6, 279, 0, 8061) := ⟨_, rfl, (zt_in (j := 8) (k := 61) rfl rfl)⟩
set_option maxRecDepth 100000 in
theorem zt_e23_72 : zt_eOK "ColumnVaultLaw" (202, 4, 70, 0, 3095) := ⟨_, rfl, (zt_in (j := 3) (k := 95) rfl rfl)⟩
set_option maxRecDepth 100000 in
theorem zt_e23_71 : zt_eOK "ColumnVaultLaw" (201, 6, 278, 0, 8056) := ⟨_, rfl, (zt_in (j := 8) (k := 56) rfl rfl)⟩
set_option maxRecDepth 100000 in
theorem zt_e23_70 : zt_eOK "ColumnVaultLaw" (199, 4, 67, 0, 3084) := ⟨_, rfl, (zt_in (j := 3) (k := 84) rfl rfl)⟩
set_option maxRecDepth 100000 in
theorem zt_e23_69 : zt_eOK "ColumnVaultLaw" (198, 6, 277, 0, 8050) := ⟨_, rfl, (zt_in (j := 8) (k := 50) rfl rfl)⟩
set_option maxRecDepth 100000 in
theorem zt_e23_68 : zt_eOK "ColumnVaultLaw" (196, 4, 64, 0, 3072) := ⟨_, rfl, (zt_in (j := 3) (k := 72) rfl rfl)⟩
set_option maxRecDepth 100000 in
theorem zt_e23_67 : zt_eOK "ColumnVaultLaw" (195, 6, 272, 0, 8029) := ⟨_, rfl, (zt_in (j := 8) (k := 29) rfl rfl)⟩
set_option maxRecDepth 100000 in
theorem zt_e23_66 : zt_eOK "ColumnVaultLaw" (192, 4, 58, 0, 3050) := ⟨_, rfl, (zt_in (j := 3) (k := 50) rfl rfl)⟩
set_option maxRecDepth 100000 in
theorem zt_e23_65 : zt_eOK "ColumnVaultLaw" (191, 6, 271, 0, 8025) := ⟨_, rfl, (zt_in (j := 8) (k := 25) rfl rfl)⟩
set_option maxRecDepth 100000 in
theorem zt_e23_64 : zt_eOK "ColumnVaultLaw" (189, 4, 55, 0, 3038) := ⟨_, rfl, (zt_in (j := 3) (k := 38) rfl rfl)⟩
set_option maxRecDepth 100000 in
theorem zt_e23_63 : zt_eOK "ColumnVaultLaw" (188, 6, 270, 0, 8021) := ⟨_, rfl, (zt_in (j := 8) (k := 21) rfl rfl)⟩
set_option maxRecDepth 100000 in
theorem zt_e23_62 : zt_eOK "ColumnVaultLaw" (185, 6, 9, 0, 1222) := ⟨_, rfl, (zt_in (j := 1) (k := 222) rfl rfl)⟩
set_option maxRecDepth 100000 in
theorem zt_e23_61 : zt_eOK "ColumnVaultLaw" (184, 6, 269, 0, 8017) := ⟨_, rfl, (zt_in (j := 8) (k := 17) rfl rfl)⟩
set_option maxRecDepth 100000 in
theorem zt_e23_60 : zt_eOK "ColumnVaultLaw" (182, 4, 53, 0, 3031) := ⟨_, rfl, (zt_in (j := 3) (k := 31) rfl rfl)⟩
set_option maxRecDepth 100000 in
theorem zt_e23_59 : zt_eOK "ColumnVaultLaw" (181, 6, 264, 0, 7235) := ⟨_, rfl, (zt_in (j := 7) (k := 235) rfl rfl)⟩
set_option maxRecDepth 100000 in
theorem zt_e23_58 : zt_eOK "ColumnVaultLaw" (179, 4, 47, 0, 3004) := ⟨_, rfl, (zt_in (j := 3) (k := 4) rfl rfl)⟩
set_option maxRecDepth 100000 in
theorem zt_e23_57 : zt_eOK "ColumnVaultLaw" (178, 6, 263, 0, 7231) := ⟨_, rfl, (zt_in (j := 7) (k := 231) rfl rfl)⟩
set_option maxRecDepth 100000 in
theorem zt_e23_56 : zt_eOK "ColumnVaultLaw" (175, 4, 43, 0, 2229) := ⟨_, rfl, (zt_in (j := 2) (k := 229) rfl rfl)⟩
set_option maxRecDepth 100000 in
theorem zt_e23_55 : zt_eOK "ColumnVaultLaw" (174, 6, 258, 0, 7204) := ⟨_, rfl, (zt_in (j := 7) (k := 204) rfl rfl)⟩
set_option maxRecDepth 100000 in
theorem zt_e23_54 : zt_eOK "ColumnVaultLaw" (172, 4, 39, 0, 2212) := ⟨_, rfl, (zt_in (j := 2) (k := 212) rfl rfl)⟩
set_option maxRecDepth 100000 in
theorem zt_e23_53 : zt_eOK "ColumnVaultLaw" (171, 6, 253, 0, 7181) := ⟨_, rfl, (zt_in (j := 7) (k := 181) rfl rfl)⟩
set_option maxRecDepth 100000 in
theorem zt_e23_52 : zt_eOK "ColumnVaultLaw" (168, 4, 31, 0, 2181) := ⟨_, rfl, (zt_in (j := 2) (k := 181) rfl rfl)⟩
set_option maxRecDepth 100000 in
theorem zt_e23_51 : zt_eOK "ColumnVaultLaw" (165, 6, 249, 0, 7157) := ⟨_, rfl, (zt_in (j := 7) (k := 157) rfl rfl)⟩
set_option maxRecDepth 100000 in
theorem zt_e23_50 : zt_eOK "ColumnVaultLaw" (162, 4, 25, 0, 2154) := ⟨_, rfl, (zt_in (j := 2) (k := 154) rfl rfl)⟩
set_option maxRecDepth 100000 in
theorem zt_e23_49 : zt_eOK "ColumnVaultLaw" (161, 6, 245, 0, 7136) := ⟨_, rfl, (zt_in (j := 7) (k := 136) rfl rfl)⟩
set_option maxRecDepth 100000 in
theorem zt_e23_48 : zt_eOK "ColumnVaultLaw" (158, 4, 22, 0, 2142) := ⟨_, rfl, (zt_in (j := 2) (k := 142) rfl rfl)⟩
set_option maxRecDepth 100000 in
theorem zt_e23_47 : zt_eOK "ColumnVaultLaw" (154, 6, 213, 0, 6092) := ⟨_, rfl, (zt_in (j := 6) (k := 92) rfl rfl)⟩
set_option maxRecDepth 100000 in
theorem zt_e23_46 : zt_eOK "ColumnVaultLaw" (153, 6, 234, 0, 7076) := ⟨_, rfl, (zt_in (j := 7) (k := 76) rfl rfl)⟩
set_option maxRecDepth 100000 in
theorem zt_e23_45 : zt_eOK "ColumnVaultLaw" (148, 4, 11, 0, 1230) := ⟨_, rfl, (zt_in (j := 1) (k := 230) rfl rfl)⟩
set_option maxRecDepth 100000 in
theorem zt_e23_44 : zt_eOK "ColumnVaultLaw" (147, 8, 214, 0, 6098) := ⟨_, rfl, (zt_in (j := 6) (k := 98) rfl rfl)⟩
set_option maxRecDepth 100000 in
theorem zt_e23_43 : zt_eOK "ColumnVaultLaw" (145, 2, 18, 999, 6096) := ⟨"ColumnVaultModel", (zt_in (j := 6) (k := 96) rfl rfl), Or.inr rfl, Or.inl rfl⟩
set_option maxRecDepth 100000 in
theorem zt_e23_42 : zt_eOK "ColumnVaultLaw" (144, 8, 1, 0, 1044) := ⟨_, rfl, (zt_in (j := 1) (k := 44) rfl rfl)⟩
set_option maxRecDepth 100000 in
theorem zt_e23_41 : zt_eOK "ColumnVaultLaw" (140, 6, 212, 0, 6088) := ⟨_, rfl, (zt_in (j := 6) (k := 88) rfl rfl)⟩
set_option maxRecDepth 100000 in
theorem zt_e23_40 : zt_eOK "ColumnVaultLaw" (136, 6, 210, 0, 6081) := ⟨_, rfl, (zt_in (j := 6) (k := 81) rfl rfl)⟩
set_option maxRecDepth 100000 in
theorem zt_e23_39 : zt_eOK "ColumnVaultLaw" (133, 6, 201, 0, 6028) := ⟨_, rfl, (zt_in (j := 6) (k := 28) rfl rfl)⟩
set_option maxRecDepth 100000 in
theorem zt_e23_38 : zt_eOK "ColumnVaultLaw" (130, 6, 193, 0, 5234) := ⟨_, rfl, (zt_in (j := 5) (k := 234) rfl rfl)⟩
set_option maxRecDepth 100000 in
theorem zt_e23_37 : zt_eOK "ColumnVaultLaw" (126, 6, 190, 0, 5221) := ⟨_, rfl, (zt_in (j := 5) (k := 221) rfl rfl)⟩
set_option maxRecDepth 100000 in
theorem zt_e23_36 : zt_eOK "ColumnVaultLaw" (122, 6, 188, 0, 5214) := ⟨_, rfl, (zt_in (j := 5) (k := 214) rfl rfl)⟩
set_option maxRecDepth 100000 in
theorem zt_e23_35 : zt_eOK "ColumnVaultLaw" (118, 6, 186, 0, 5207) := ⟨_, rfl, (zt_in (j := 5) (k := 207) rfl rfl)⟩
set_option maxRecDepth 100000 in
theorem zt_e23_34 : zt_eOK "ColumnVaultLaw" (115, 6, 184, 0, 5196) := ⟨_, rfl, (zt_in (j := 5) (k := 196) rfl rfl)⟩
set_option maxRecDepth 100000 in
theorem zt_e23_33 : zt_eOK "ColumnVaultLaw" (112, 6, 180, 0, 5181) := ⟨_, rfl, (zt_in (j := 5) (k := 181) rfl rfl)⟩
set_option maxRecDepth 100000 in
theorem zt_e23_32 : zt_eOK "ColumnVaultLaw" (109, 6, 178, 0, 5174) := ⟨_, rfl, (zt_in (j := 5) (k := 174) rfl rfl)⟩
set_option maxRecDepth 100000 in
theorem zt_e23_31 : zt_eOK "ColumnVaultLaw" (107, 2, 22, 999, 5136) := ⟨"java/util/NoSuchElementException", (zt_in (j := 5) (k := 136) rfl rfl), Or.inr rfl, Or.inl rfl⟩
set_option maxRecDepth 100000 in
theorem zt_e23_30 : zt_eOK "ColumnVaultLaw" (104, 6, 173, 0, 5137) := ⟨_, rfl, (zt_in (j := 5) (k := 137) rfl rfl)⟩
set_option maxRecDepth 100000 in
theorem zt_e23_29 : zt_eOK "ColumnVaultLaw" (100, 6, 165, 0, 5100) := ⟨_, rfl, (zt_in (j := 5) (k := 100) rfl rfl)⟩
set_option maxRecDepth 100000 in
theorem zt_e23_28 : zt_eOK "ColumnVaultLaw" (97, 6, 160, 0, 5077) := ⟨_, rfl, (zt_in (j := 5) (k := 77) rfl rfl)⟩
set_option maxRecDepth 100000 in
theorem zt_e23_27 : zt_eOK "ColumnVaultLaw" (93, 6, 149, 0, 5009) := ⟨_, rfl, (zt_in (j := 5) (k := 9) rfl rfl)⟩
set_option maxRecDepth 100000 in
theorem zt_e23_26 : zt_eOK "ColumnVaultLaw" (90, 6, 146, 0, 4237) := ⟨_, rfl, (zt_in (j := 4) (k := 237) rfl rfl)⟩
set_option maxRecDepth 100000 in
theorem zt_e23_25 : zt_eOK "ColumnVaultLaw" (87, 6, 140, 0, 4209) := ⟨_, rfl, (zt_in (j := 4) (k := 209) rfl rfl)⟩
set_option maxRecDepth 100000 in
theorem zt_e23_24 : zt_eOK "ColumnVaultLaw" (84, 6, 126, 0, 4146) := ⟨_, rfl, (zt_in (j := 4) (k := 146) rfl rfl)⟩
set_option maxRecDepth 100000 in
theorem zt_e23_23 : zt_eOK "ColumnVaultLaw" (80, 6, 121, 0, 4126) := ⟨_, rfl, (zt_in (j := 4) (k := 126) rfl rfl)⟩
set_option maxRecDepth 100000 in
theorem zt_e23_22 : zt_eOK "ColumnVaultLaw" (77, 6, 119, 0, 4119) := ⟨_, rfl, (zt_in (j := 4) (k := 119) rfl rfl)⟩
set_option maxRecDepth 100000 in
theorem zt_e23_21 : zt_eOK "ColumnVaultLaw" (74, 6, 117, 0, 4112) := ⟨_, rfl, (zt_in (j := 4) (k := 112) rfl rfl)⟩
set_option maxRecDepth 100000 in
theorem zt_e23_20 : zt_eOK "ColumnVaultLaw" (70, 6, 114, 0, 4102) := ⟨_, rfl, (zt_in (j := 4) (k := 102) rfl rfl)⟩
set_option maxRecDepth 100000 in
theorem zt_e23_19 : zt_eOK "ColumnVaultLaw" (67, 6, 112, 0, 4095) := ⟨_, rfl, (zt_in (j := 4) (k := 95) rfl rfl)⟩
set_option maxRecDepth 100000 in
theorem zt_e23_18 : zt_eOK "ColumnVaultLaw" (64, 6, 110, 0, 4087) := ⟨_, rfl, (zt_in (j := 4) (k := 87) rfl rfl)⟩
set_option maxRecDepth 100000 in
theorem zt_e23_17 : zt_eOK "ColumnVaultLaw" (61, 6, 74, 0, 3108) := ⟨_, rfl, (zt_in (j := 3) (k := 108) rfl rfl)⟩
set_option maxRecDepth 100000 in
theorem zt_e23_16 : zt_eOK "ColumnVaultLaw" (57, 6, 71, 0, 3098) := ⟨_, rfl, (zt_in (j := 3) (k := 98) rfl rfl)⟩
set_option maxRecDepth 100000 in
theorem zt_e23_15 : zt_eOK "ColumnVaultLaw" (54, 6, 68, 0, 3087) := ⟨_, rfl, (zt_in (j := 3) (k := 87) rfl rfl)⟩
set_option maxRecDepth 100000 in
theorem zt_e23_14 : zt_eOK "ColumnVaultLaw" (51, 6, 65, 0, 3075) := ⟨_, rfl, (zt_in (j := 3) (k := 75) rfl rfl)⟩
set_option maxRecDepth 100000 in
theorem zt_e23_13 : zt_eOK "ColumnVaultLaw" (47, 6, 59, 0, 3053) := ⟨_, rfl, (zt_in (j := 3) (k := 53) rfl rfl)⟩
set_option maxRecDepth 100000 in
theorem zt_e23_12 : zt_eOK "ColumnVaultLaw" (44, 6, 56, 0, 3041) := ⟨_, rfl, (zt_in (j := 3) (k := 41) rfl rfl)⟩
set_option maxRecDepth 100000 in
theorem zt_e23_11 : zt_eOK "ColumnVaultLaw" (41, 6, 54, 0, 3034) := ⟨_, rfl, (zt_in (j := 3) (k := 34) rfl rfl)⟩
set_option maxRecDepth 100000 in
theorem zt_e23_10 : zt_eOK "ColumnVaultLaw" (38, 6, 48, 0, 3007) := ⟨_, rfl, (zt_in (j := 3) (k := 7) rfl rfl)⟩
set_option maxRecDepth 100000 in
theorem zt_e23_9 : zt_eOK "ColumnVaultLaw" (34, 6, 44, 0, 2232) := ⟨_, rfl, (zt_in (j := 2) (k := 232) rfl rfl)⟩
set_option maxRecDepth 100000 in
theorem zt_e23_8 : zt_eOK "ColumnVaultLaw" (31, 6, 40, 0, 2215) := ⟨_, rfl, (zt_in (j := 2) (k := 215) rfl rfl)⟩
set_option maxRecDepth 100000 in
theorem zt_e23_7 : zt_eOK "ColumnVaultLaw" (27, 6, 32, 0, 2184) := ⟨_, rfl, (zt_in (j := 2) (k := 184) rfl rfl)⟩
set_option maxRecDepth 100000 in
theorem zt_e23_6 : zt_eOK "ColumnVaultLaw" (23, 6, 26, 0, 2157) := ⟨_, rfl, (zt_in (j := 2) (k := 157) rfl rfl)⟩
set_option maxRecDepth 100000 in
theorem zt_e23_5 : zt_eOK "ColumnVaultLaw" (19, 6, 23, 0, 2145) := ⟨_, rfl, (zt_in (j := 2) (k := 145) rfl rfl)⟩
set_option maxRecDepth 100000 in
theorem zt_e23_4 : zt_eOK "ColumnVaultLaw" (17, 2, 21, 999, 1235) := ⟨"java/lang/IllegalStateException", (zt_in (j := 1) (k := 235) rfl rfl), Or.inr rfl, Or.inl rfl⟩
set_option maxRecDepth 100000 in
theorem zt_e23_3 : zt_eOK "ColumnVaultLaw" (15, 2, 20, 999, 1234) := ⟨"java/lang/IllegalArgumentException", (zt_in (j := 1) (k := 234) rfl rfl), Or.inr rfl, Or.inl rfl⟩
set_option maxRecDepth 100000 in
theorem zt_e23_2 : zt_eOK "ColumnVaultLaw" (13, 2, 19, 999, 1233) := ⟨"java/lang/IndexOutOfBoundsException", (zt_in (j := 1) (k := 233) rfl rfl), Or.inr rfl, Or.inl rfl⟩
set_option maxRecDepth 100000 in
theorem zt_e23_1 : zt_eOK "ColumnVaultLaw" (8, 2, 15, 999, 1042) := ⟨"ColumnVault", (zt_in (j := 1) (k := 42) rfl rfl), Or.inr rfl, Or.inl rfl⟩
set_option maxRecDepth 100000 in
theorem zt_e23_0 : zt_eOK "ColumnVaultLaw" (7, 6, 12, 0, 1236) := ⟨_, rfl, (zt_in (j := 1) (k := 236) rfl rfl)⟩
theorem zt_pl23_ok : ∀ e ∈ zt_pl23, zt_eOK "ColumnVaultLaw" e := List.forall_mem_cons.mpr ⟨zt_e23_0, List.forall_mem_cons.mpr ⟨zt_e23_1, List.forall_mem_cons.mpr ⟨zt_e23_2, List.forall_mem_cons.mpr ⟨zt_e23_3, List.forall_mem_cons.mpr ⟨zt_e23_4, List.forall_mem_cons.mpr ⟨zt_e23_5, List.forall_mem_cons.mpr ⟨zt_e23_6, List.forall_mem_cons.mpr ⟨zt_e23_7, List.forall_mem_cons.mpr ⟨zt_e23_8, List.forall_mem_cons.mpr ⟨zt_e23_9, List.forall_mem_cons.mpr ⟨zt_e23_10, List.forall_mem_cons.mpr ⟨zt_e23_11, List.forall_mem_cons.mpr ⟨zt_e23_12, List.forall_mem_cons.mpr ⟨zt_e23_13, List.forall_mem_cons.mpr ⟨zt_e23_14, List.forall_mem_cons.mpr ⟨zt_e23_15, List.forall_mem_cons.mpr ⟨zt_e23_16, List.forall_mem_cons.mpr ⟨zt_e23_17, List.forall_mem_cons.mpr ⟨zt_e23_18, List.forall_mem_cons.mpr ⟨zt_e23_19, List.forall_mem_cons.mpr ⟨zt_e23_20, List.forall_mem_cons.mpr ⟨zt_e23_21, List.forall_mem_cons.mpr ⟨zt_e23_22, List.forall_mem_cons.mpr ⟨zt_e23_23, List.forall_mem_cons.mpr ⟨zt_e23_24, List.forall_mem_cons.mpr ⟨zt_e23_25, List.forall_mem_cons.mpr ⟨zt_e23_26, List.forall_mem_cons.mpr ⟨zt_e23_27, List.forall_mem_cons.mpr ⟨zt_e23_28, List.forall_mem_cons.mpr ⟨zt_e23_29, List.forall_mem_cons.mpr ⟨zt_e23_30, List.forall_mem_cons.mpr ⟨zt_e23_31, List.forall_mem_cons.mpr ⟨zt_e23_32, List.forall_mem_cons.mpr ⟨zt_e23_33, List.forall_mem_cons.mpr ⟨zt_e23_34, List.forall_mem_cons.mpr ⟨zt_e23_35, List.forall_mem_cons.mpr ⟨zt_e23_36, List.forall_mem_cons.mpr ⟨zt_e23_37, List.forall_mem_cons.mpr ⟨zt_e23_38, List.forall_mem_cons.mpr ⟨zt_e23_39, List.forall_mem_cons.mpr ⟨zt_e23_40, List.forall_mem_cons.mpr ⟨zt_e23_41, List.forall_mem_cons.mpr ⟨zt_e23_42, List.forall_mem_cons.mpr ⟨zt_e23_43, List.forall_mem_cons.mpr ⟨zt_e23_44, List.forall_mem_cons.mpr ⟨zt_e23_45, List.forall_mem_cons.mpr ⟨zt_e23_46, List.forall_mem_cons.mpr ⟨zt_e23_47, List.forall_mem_cons.mpr ⟨zt_e23_48, List.forall_mem_cons.mpr ⟨zt_e23_49, List.forall_mem_cons.mpr ⟨zt_e23_50, List.forall_mem_cons.mpr ⟨zt_e23_51, List.forall_mem_cons.mpr ⟨zt_e23_52, List.forall_mem_cons.mpr ⟨zt_e23_53, List.forall_mem_cons.mpr ⟨zt_e23_54, List.forall_mem_cons.mpr ⟨zt_e23_55, List.forall_mem_cons.mpr ⟨zt_e23_56, List.forall_mem_cons.mpr ⟨zt_e23_57, List.forall_mem_cons.mpr ⟨zt_e23_58, List.forall_mem_cons.mpr ⟨zt_e23_59, List.forall_mem_cons.mpr ⟨zt_e23_60, List.forall_mem_cons.mpr ⟨zt_e23_61, List.forall_mem_cons.mpr ⟨zt_e23_62, List.forall_mem_cons.mpr ⟨zt_e23_63, List.forall_mem_cons.mpr ⟨zt_e23_64, List.forall_mem_cons.mpr ⟨zt_e23_65, List.forall_mem_cons.mpr ⟨zt_e23_66, List.forall_mem_cons.mpr ⟨zt_e23_67, List.forall_mem_cons.mpr ⟨zt_e23_68, List.forall_mem_cons.mpr ⟨zt_e23_69, List.forall_mem_cons.mpr ⟨zt_e23_70, List.forall_mem_cons.mpr ⟨zt_e23_71, List.forall_mem_cons.mpr ⟨zt_e23_72, List.forall_mem_cons.mpr ⟨zt_e23_73, List.forall_mem_cons.mpr ⟨zt_e23_74, List.forall_mem_cons.mpr ⟨zt_e23_75, List.forall_mem_cons.mpr ⟨zt_e23_76, List.forall_mem_cons.mpr ⟨zt_e23_77, List.forall_mem_cons.mpr ⟨zt_e23_78, List.forall_mem_cons.mpr ⟨zt_e23_79, List.forall_mem_cons.mpr ⟨zt_e23_80, List.forall_mem_cons.mpr ⟨zt_e23_81, List.forall_mem_cons.mpr ⟨zt_e23_82, List.forall_mem_cons.mpr ⟨zt_e23_83, List.forall_mem_cons.mpr ⟨zt_e23_84, List.forall_mem_cons.mpr ⟨zt_e23_85, List.forall_mem_cons.mpr ⟨zt_e23_86, List.forall_mem_cons.mpr ⟨zt_e23_87, List.forall_mem_cons.mpr ⟨zt_e23_88, List.forall_mem_cons.mpr ⟨zt_e23_89, List.forall_mem_cons.mpr ⟨zt_e23_90, List.forall_mem_cons.mpr ⟨zt_e23_91, List.forall_mem_cons.mpr ⟨zt_e23_92, List.forall_mem_cons.mpr ⟨zt_e23_93, List.forall_mem_cons.mpr ⟨zt_e23_94, List.forall_mem_cons.mpr ⟨zt_e23_95, List.forall_mem_cons.mpr ⟨zt_e23_96, List.forall_mem_cons.mpr ⟨zt_e23_97, List.forall_mem_cons.mpr ⟨zt_e23_98, List.forall_mem_cons.mpr ⟨zt_e23_99, List.forall_mem_cons.mpr ⟨zt_e23_100, List.forall_mem_cons.mpr ⟨zt_e23_101, List.forall_mem_cons.mpr ⟨zt_e23_102, List.forall_mem_cons.mpr ⟨zt_e23_103, List.forall_mem_cons.mpr ⟨zt_e23_104, List.forall_mem_cons.mpr ⟨zt_e23_105, List.forall_mem_cons.mpr ⟨zt_e23_106, List.forall_mem_cons.mpr ⟨zt_e23_107, List.forall_mem_cons.mpr ⟨zt_e23_108, List.forall_mem_cons.mpr ⟨zt_e23_109, List.forall_mem_cons.mpr ⟨zt_e23_110, List.forall_mem_cons.mpr ⟨zt_e23_111, List.forall_mem_cons.mpr ⟨zt_e23_112, List.forall_mem_cons.mpr ⟨zt_e23_113, List.forall_mem_cons.mpr ⟨zt_e23_114, List.forall_mem_cons.mpr ⟨zt_e23_115, List.forall_mem_cons.mpr ⟨zt_e23_116, List.forall_mem_cons.mpr ⟨zt_e23_117, List.forall_mem_cons.mpr ⟨zt_e23_118, List.forall_mem_cons.mpr ⟨zt_e23_119, List.forall_mem_cons.mpr ⟨zt_e23_120, List.forall_mem_cons.mpr ⟨zt_e23_121, List.forall_mem_cons.mpr ⟨zt_e23_122, List.forall_mem_cons.mpr ⟨zt_e23_123, fun _ h => absurd h List.not_mem_nil⟩⟩⟩⟩⟩⟩⟩⟩⟩⟩⟩⟩⟩⟩⟩⟩⟩⟩⟩⟩⟩⟩⟩⟩⟩⟩⟩⟩⟩⟩⟩⟩⟩⟩⟩⟩⟩⟩⟩⟩⟩⟩⟩⟩⟩⟩⟩⟩⟩⟩⟩⟩⟩⟩⟩⟩⟩⟩⟩⟩⟩⟩⟩⟩⟩⟩⟩⟩⟩⟩⟩⟩⟩⟩⟩⟩⟩⟩⟩⟩⟩⟩⟩⟩⟩⟩⟩⟩⟩⟩⟩⟩⟩⟩⟩⟩⟩⟩⟩⟩⟩⟩⟩⟩⟩⟩⟩⟩⟩⟩⟩⟩⟩⟩⟩⟩⟩⟩⟩⟩⟩⟩⟩⟩
set_option maxRecDepth 100000 in
theorem zt_lc23_ok : ∀ e ∈ zt_lc23, Cond.constantLong "ColumnVaultLaw" e.1 e.2.1 ∈ zt_good := List.forall_mem_cons.mpr ⟨(zt_in (j := 10) (k := 160) rfl rfl), fun _ h => absurd h List.not_mem_nil⟩
theorem zt_pl24_ok : ∀ e ∈ zt_pl24, zt_eOK "java/lang/Math" e := fun _ h => absurd h List.not_mem_nil
set_option maxRecDepth 100000 in
theorem zt_lc24_ok : ∀ e ∈ zt_lc24, Cond.constantLong "java/lang/Math" e.1 e.2.1 ∈ zt_good := fun _ h => absurd h List.not_mem_nil
set_option maxRecDepth 100000 in
theorem zt_e25_1 : zt_eOK "java/lang/StringLatin1" (240, 4, 347, 0, 9189) := ⟨_, rfl, (zt_in (j := 9) (k := 189) rfl rfl)⟩
set_option maxRecDepth 100000 in
theorem zt_e25_0 : zt_eOK "java/lang/StringLatin1" (9, 4, 133, 0, 4176) := ⟨_, rfl, (zt_in (j := 4) (k := 176) rfl rfl)⟩
theorem zt_pl25_ok : ∀ e ∈ zt_pl25, zt_eOK "java/lang/StringLatin1" e := List.forall_mem_cons.mpr ⟨zt_e25_0, List.forall_mem_cons.mpr ⟨zt_e25_1, fun _ h => absurd h List.not_mem_nil⟩⟩
set_option maxRecDepth 100000 in
theorem zt_lc25_ok : ∀ e ∈ zt_lc25, Cond.constantLong "java/lang/StringLatin1" e.1 e.2.1 ∈ zt_good := fun _ h => absurd h List.not_mem_nil
theorem zt_pl26_ok : ∀ e ∈ zt_pl26, zt_eOK "jdk/internal/util/Preconditions" e := fun _ h => absurd h List.not_mem_nil
set_option maxRecDepth 100000 in
theorem zt_lc26_ok : ∀ e ∈ zt_lc26, Cond.constantLong "jdk/internal/util/Preconditions" e.1 e.2.1 ∈ zt_good := fun _ h => absurd h List.not_mem_nil
set_option maxRecDepth 100000 in
theorem zt_e27_12 : zt_eOK "java/lang/StringUTF16" (419, 4, 349, 0, 9195) := ⟨_, rfl, (zt_in (j := 9) (k := 195) rfl rfl)⟩
set_option maxRecDepth 100000 in
theorem zt_e27_11 : zt_eOK "java/lang/StringUTF16" (414, 4, 133, 0, 4193) := ⟨_, rfl, (zt_in (j := 4) (k := 193) rfl rfl)⟩
set_option maxRecDepth 100000 in
theorem zt_e27_10 : zt_eOK "java/lang/StringUTF16" (393, 4, 357, 0, 9227) := ⟨_, rfl, (zt_in (j := 9) (k := 227) rfl rfl)⟩
set_option maxRecDepth 100000 in
theorem zt_e27_9 : zt_eOK "java/lang/StringUTF16" (241, 4, 340, 0, 9163) := ⟨_, rfl, (zt_in (j := 9) (k := 163) rfl rfl)⟩
set_option maxRecDepth 100000 in
theorem zt_e27_8 : zt_eOK "java/lang/StringUTF16" (173, 4, 348, 0, 9192) := ⟨_, rfl, (zt_in (j := 9) (k := 192) rfl rfl)⟩
set_option maxRecDepth 100000 in
theorem zt_e27_7 : zt_eOK "java/lang/StringUTF16" (126, 4, 364, 0, 10043) := ⟨_, rfl, (zt_in (j := 10) (k := 43) rfl rfl)⟩
set_option maxRecDepth 100000 in
theorem zt_e27_6 : zt_eOK "java/lang/StringUTF16" (123, 4, 368, 0, 10040) := ⟨_, rfl, (zt_in (j := 10) (k := 40) rfl rfl)⟩
set_option maxRecDepth 100000 in
theorem zt_e27_5 : zt_eOK "java/lang/StringUTF16" (111, 4, 342, 0, 9169) := ⟨_, rfl, (zt_in (j := 9) (k := 169) rfl rfl)⟩
set_option maxRecDepth 100000 in
theorem zt_e27_4 : zt_eOK "java/lang/StringUTF16" (96, 4, 339, 0, 9160) := ⟨_, rfl, (zt_in (j := 9) (k := 160) rfl rfl)⟩
set_option maxRecDepth 100000 in
theorem zt_e27_3 : zt_eOK "java/lang/StringUTF16" (71, 4, 138, 0, 4194) := ⟨_, rfl, (zt_in (j := 4) (k := 194) rfl rfl)⟩
set_option maxRecDepth 100000 in
theorem zt_e27_2 : zt_eOK "java/lang/StringUTF16" (67, 4, 136, 0, 4187) := ⟨_, rfl, (zt_in (j := 4) (k := 187) rfl rfl)⟩
set_option maxRecDepth 100000 in
theorem zt_e27_1 : zt_eOK "java/lang/StringUTF16" (48, 4, 137, 0, 4190) := ⟨_, rfl, (zt_in (j := 4) (k := 190) rfl rfl)⟩
set_option maxRecDepth 100000 in
theorem zt_e27_0 : zt_eOK "java/lang/StringUTF16" (11, 4, 330, 0, 9103) := ⟨_, rfl, (zt_in (j := 9) (k := 103) rfl rfl)⟩
theorem zt_pl27_ok : ∀ e ∈ zt_pl27, zt_eOK "java/lang/StringUTF16" e := List.forall_mem_cons.mpr ⟨zt_e27_0, List.forall_mem_cons.mpr ⟨zt_e27_1, List.forall_mem_cons.mpr ⟨zt_e27_2, List.forall_mem_cons.mpr ⟨zt_e27_3, List.forall_mem_cons.mpr ⟨zt_e27_4, List.forall_mem_cons.mpr ⟨zt_e27_5, List.forall_mem_cons.mpr ⟨zt_e27_6, List.forall_mem_cons.mpr ⟨zt_e27_7, List.forall_mem_cons.mpr ⟨zt_e27_8, List.forall_mem_cons.mpr ⟨zt_e27_9, List.forall_mem_cons.mpr ⟨zt_e27_10, List.forall_mem_cons.mpr ⟨zt_e27_11, List.forall_mem_cons.mpr ⟨zt_e27_12, fun _ h => absurd h List.not_mem_nil⟩⟩⟩⟩⟩⟩⟩⟩⟩⟩⟩⟩⟩
set_option maxRecDepth 100000 in
theorem zt_lc27_ok : ∀ e ∈ zt_lc27, Cond.constantLong "java/lang/StringUTF16" e.1 e.2.1 ∈ zt_good := fun _ h => absurd h List.not_mem_nil
set_option maxRecDepth 100000 in
theorem zt_e28_1 : zt_eOK "java/util/AbstractList" (7, 0, 4, 0, 6125) := ⟨_, "java/util/AbstractList", rfl, by decide, (zt_in (j := 6) (k := 125) rfl rfl), Or.inl rfl⟩
set_option maxRecDepth 100000 in
theorem zt_e28_0 : zt_eOK "java/util/AbstractList" (1, 8, 218, 0, 6117) := ⟨_, rfl, (zt_in (j := 6) (k := 117) rfl rfl)⟩
theorem zt_pl28_ok : ∀ e ∈ zt_pl28, zt_eOK "java/util/AbstractList" e := List.forall_mem_cons.mpr ⟨zt_e28_0, List.forall_mem_cons.mpr ⟨zt_e28_1, fun _ h => absurd h List.not_mem_nil⟩⟩
set_option maxRecDepth 100000 in
theorem zt_lc28_ok : ∀ e ∈ zt_lc28, Cond.constantLong "java/util/AbstractList" e.1 e.2.1 ∈ zt_good := fun _ h => absurd h List.not_mem_nil
set_option maxRecDepth 100000 in
theorem zt_e29_0 : zt_eOK "java/util/AbstractCollection" (1, 10, 0, 0, 6120) := (zt_in (j := 6) (k := 120) rfl rfl)
theorem zt_pl29_ok : ∀ e ∈ zt_pl29, zt_eOK "java/util/AbstractCollection" e := List.forall_mem_cons.mpr ⟨zt_e29_0, fun _ h => absurd h List.not_mem_nil⟩
set_option maxRecDepth 100000 in
theorem zt_lc29_ok : ∀ e ∈ zt_lc29, Cond.constantLong "java/util/AbstractCollection" e.1 e.2.1 ∈ zt_good := fun _ h => absurd h List.not_mem_nil
set_option maxRecDepth 100000 in
theorem zt_e30_0 : zt_eOK "java/util/Objects" (105, 4, 134, 0, 6185) := ⟨_, rfl, (zt_in (j := 6) (k := 185) rfl rfl)⟩
theorem zt_pl30_ok : ∀ e ∈ zt_pl30, zt_eOK "java/util/Objects" e := List.forall_mem_cons.mpr ⟨zt_e30_0, fun _ h => absurd h List.not_mem_nil⟩
set_option maxRecDepth 100000 in
theorem zt_lc30_ok : ∀ e ∈ zt_lc30, Cond.constantLong "java/util/Objects" e.1 e.2.1 ∈ zt_good := fun _ h => absurd h List.not_mem_nil
set_option maxRecDepth 100000 in
theorem zt_e31_1 : zt_eOK "jdk/internal/util/ArraysSupport" (201, 4, 230, 0, 6217) := ⟨_, rfl, (zt_in (j := 6) (k := 217) rfl rfl)⟩
set_option maxRecDepth 100000 in
theorem zt_e31_0 : zt_eOK "jdk/internal/util/ArraysSupport" (194, 16, 0, 0, 6215) := Or.inl ⟨rfl, (zt_in (j := 6) (k := 215) rfl rfl), (zt_in (j := 3) (k := 193) rfl rfl), (zt_in (j := 1) (k := 17) rfl rfl), (zt_in (j := 3) (k := 194) rfl rfl)⟩
theorem zt_pl31_ok : ∀ e ∈ zt_pl31, zt_eOK "jdk/internal/util/ArraysSupport" e := List.forall_mem_cons.mpr ⟨zt_e31_0, List.forall_mem_cons.mpr ⟨zt_e31_1, fun _ h => absurd h List.not_mem_nil⟩⟩
set_option maxRecDepth 100000 in
theorem zt_lc31_ok : ∀ e ∈ zt_lc31, Cond.constantLong "jdk/internal/util/ArraysSupport" e.1 e.2.1 ∈ zt_good := fun _ h => absurd h List.not_mem_nil
set_option maxRecDepth 100000 in
theorem zt_e32_14 : zt_eOK "java/util/Arrays" (343, 4, 366, 0, 10026) := ⟨_, rfl, (zt_in (j := 10) (k := 26) rfl rfl)⟩
set_option maxRecDepth 100000 in
theorem zt_e32_13 : zt_eOK "java/util/Arrays" (339, 4, 365, 0, 10023) := ⟨_, rfl, (zt_in (j := 10) (k := 23) rfl rfl)⟩
set_option maxRecDepth 100000 in
theorem zt_e32_12 : zt_eOK "java/util/Arrays" (337, 13, 0, 0, 10033) := ⟨" > ", zt_ch_in (j := 10) (List.mem_of_getElem? (i := 33) rfl), fun h => absurd h (by decide)⟩
set_option maxRecDepth 100000 in
theorem zt_e32_11 : zt_eOK "java/util/Arrays" (311, 18, 3, 0, 9151) := ⟨"[B", _, (zt_in (j := 9) (k := 151) rfl rfl), rfl, by decide +kernel⟩
set_option maxRecDepth 100000 in
theorem zt_e32_10 : zt_eOK "java/util/Arrays" (304, 16, 0, 1, 7017) := Or.inr (Or.inl ⟨rfl, (zt_in (j := 7) (k := 17) rfl rfl), (zt_in (j := 7) (k := 18) rfl rfl), (zt_in (j := 1) (k := 17) rfl rfl), (zt_in (j := 7) (k := 19) rfl rfl)⟩)
set_option maxRecDepth 100000 in
theorem zt_e32_9 : zt_eOK "java/util/Arrays" (300, 4, 232, 0, 7011) := ⟨_, rfl, (zt_in (j := 7) (k := 11) rfl rfl)⟩
set_option maxRecDepth 100000 in
theorem zt_e32_8 : zt_eOK "java/util/Arrays" (150, 17, 0, 0, 7020) := (zt_in (j := 7) (k := 20) rfl rfl)
set_option maxRecDepth 100000 in
theorem zt_e32_7 : zt_eOK "java/util/Arrays" (110, 18, 5, 0, 7014) := ⟨"[Ljava/lang/Object;", _, (zt_in (j := 7) (k := 14) rfl rfl), rfl, by decide +kernel⟩
set_option maxRecDepth 100000 in
theorem zt_e32_6 : zt_eOK "java/util/Arrays" (61, 6, 358, 0, 10035) := ⟨_, rfl, (zt_in (j := 10) (k := 35) rfl rfl)⟩
set_option maxRecDepth 100000 in
theorem zt_e32_5 : zt_eOK "java/util/Arrays" (54, 6, 352, 0, 10032) := ⟨_, rfl, (zt_in (j := 10) (k := 32) rfl rfl)⟩
set_option maxRecDepth 100000 in
theorem zt_e32_4 : zt_eOK "java/util/Arrays" (50, 6, 331, 0, 10034) := ⟨_, rfl, (zt_in (j := 10) (k := 34) rfl rfl)⟩
set_option maxRecDepth 100000 in
theorem zt_e32_3 : zt_eOK "java/util/Arrays" (47, 8, 327, 0, 10031) := ⟨_, rfl, (zt_in (j := 10) (k := 31) rfl rfl)⟩
set_option maxRecDepth 100000 in
theorem zt_e32_2 : zt_eOK "java/util/Arrays" (45, 2, 1, 999, 10030) := ⟨"java/lang/StringBuilder", (zt_in (j := 10) (k := 30) rfl rfl), Or.inr rfl, Or.inl rfl⟩
set_option maxRecDepth 100000 in
theorem zt_e32_1 : zt_eOK "java/util/Arrays" (43, 2, 20, 999, 10029) := ⟨"java/lang/IllegalArgumentException", (zt_in (j := 10) (k := 29) rfl rfl), Or.inr rfl, Or.inl rfl⟩
set_option maxRecDepth 100000 in
theorem zt_e32_0 : zt_eOK "java/util/Arrays" (2, 2, 999, 5, 7016) := ⟨"java/lang/Object", (zt_in (j := 7) (k := 16) rfl rfl), Or.inl rfl, Or.inr rfl⟩
theorem zt_pl32_ok : ∀ e ∈ zt_pl32, zt_eOK "java/util/Arrays" e := List.forall_mem_cons.mpr ⟨zt_e32_0, List.forall_mem_cons.mpr ⟨zt_e32_1, List.forall_mem_cons.mpr ⟨zt_e32_2, List.forall_mem_cons.mpr ⟨zt_e32_3, List.forall_mem_cons.mpr ⟨zt_e32_4, List.forall_mem_cons.mpr ⟨zt_e32_5, List.forall_mem_cons.mpr ⟨zt_e32_6, List.forall_mem_cons.mpr ⟨zt_e32_7, List.forall_mem_cons.mpr ⟨zt_e32_8, List.forall_mem_cons.mpr ⟨zt_e32_9, List.forall_mem_cons.mpr ⟨zt_e32_10, List.forall_mem_cons.mpr ⟨zt_e32_11, List.forall_mem_cons.mpr ⟨zt_e32_12, List.forall_mem_cons.mpr ⟨zt_e32_13, List.forall_mem_cons.mpr ⟨zt_e32_14, fun _ h => absurd h List.not_mem_nil⟩⟩⟩⟩⟩⟩⟩⟩⟩⟩⟩⟩⟩⟩⟩
set_option maxRecDepth 100000 in
theorem zt_lc32_ok : ∀ e ∈ zt_lc32, Cond.constantLong "java/util/Arrays" e.1 e.2.1 ∈ zt_good := fun _ h => absurd h List.not_mem_nil
set_option maxRecDepth 100000 in
theorem zt_e33_0 : zt_eOK "java/lang/Number" (1, 10, 0, 0, 7110) := (zt_in (j := 7) (k := 110) rfl rfl)
theorem zt_pl33_ok : ∀ e ∈ zt_pl33, zt_eOK "java/lang/Number" e := List.forall_mem_cons.mpr ⟨zt_e33_0, fun _ h => absurd h List.not_mem_nil⟩
set_option maxRecDepth 100000 in
theorem zt_lc33_ok : ∀ e ∈ zt_lc33, Cond.constantLong "java/lang/Number" e.1 e.2.1 ∈ zt_good := fun _ h => absurd h List.not_mem_nil
set_option maxRecDepth 100000 in
theorem zt_e34_1 : zt_eOK "java/lang/Boolean" (31, 14, 2, 0, 7155) := ⟨_, rfl, (zt_in (j := 7) (k := 155) rfl rfl)⟩
set_option maxRecDepth 100000 in
theorem zt_e34_0 : zt_eOK "java/lang/Boolean" (27, 14, 1, 0, 7153) := ⟨_, rfl, (zt_in (j := 7) (k := 153) rfl rfl)⟩
theorem zt_pl34_ok : ∀ e ∈ zt_pl34, zt_eOK "java/lang/Boolean" e := List.forall_mem_cons.mpr ⟨zt_e34_0, List.forall_mem_cons.mpr ⟨zt_e34_1, fun _ h => absurd h List.not_mem_nil⟩⟩
set_option maxRecDepth 100000 in
theorem zt_lc34_ok : ∀ e ∈ zt_lc34, Cond.constantLong "java/lang/Boolean" e.1 e.2.1 ∈ zt_good := fun _ h => absurd h List.not_mem_nil
set_option maxRecDepth 100000 in
theorem zt_e35_15 : zt_eOK "java/lang/AbstractStringBuilder" (399, 6, 351, 0, 9201) := ⟨_, rfl, (zt_in (j := 9) (k := 201) rfl rfl)⟩
set_option maxRecDepth 100000 in
theorem zt_e35_14 : zt_eOK "java/lang/AbstractStringBuilder" (251, 4, 356, 0, 9224) := ⟨_, rfl, (zt_in (j := 9) (k := 224) rfl rfl)⟩
set_option maxRecDepth 100000 in
theorem zt_e35_13 : zt_eOK "java/lang/AbstractStringBuilder" (248, 4, 355, 0, 9217) := ⟨_, rfl, (zt_in (j := 9) (k := 217) rfl rfl)⟩
set_option maxRecDepth 100000 in
theorem zt_e35_12 : zt_eOK "java/lang/AbstractStringBuilder" (245, 4, 354, 0, 9214) := ⟨_, rfl, (zt_in (j := 9) (k := 214) rfl rfl)⟩
set_option maxRecDepth 100000 in
theorem zt_e35_11 : zt_eOK "java/lang/AbstractStringBuilder" (226, 4, 338, 0, 9157) := ⟨_, rfl, (zt_in (j := 9) (k := 157) rfl rfl)⟩
set_option maxRecDepth 100000 in
theorem zt_e35_10 : zt_eOK "java/lang/AbstractStringBuilder" (125, 4, 346, 0, 9186) := ⟨_, rfl, (zt_in (j := 9) (k := 186) rfl rfl)⟩
set_option maxRecDepth 100000 in
theorem zt_e35_9 : zt_eOK "java/lang/AbstractStringBuilder" (114, 4, 229, 0, 9140) := ⟨_, rfl, (zt_in (j := 9) (k := 140) rfl rfl)⟩
set_option maxRecDepth 100000 in
theorem zt_e35_8 : zt_eOK "java/lang/AbstractStringBuilder" (108, 4, 336, 0, 9142) := ⟨_, rfl, (zt_in (j := 9) (k := 142) rfl rfl)⟩
set_option maxRecDepth 100000 in
theorem zt_e35_7 : zt_eOK "java/lang/AbstractStringBuilder" (79, 0, 1, 3, 9110) := ⟨_, "java/lang/AbstractStringBuilder", rfl, by decide, (zt_in (j := 9) (k := 110) rfl rfl), Or.inl rfl⟩
set_option maxRecDepth 100000 in
theorem zt_e35_6 : zt_eOK "java/lang/AbstractStringBuilder" (40, 6, 129, 0, 9181) := ⟨_, rfl, (zt_in (j := 9) (k := 181) rfl rfl)⟩
set_option maxRecDepth 100000 in
theorem zt_e35_5 : zt_eOK "java/lang/AbstractStringBuilder" (32, 6, 128, 0, 9172) := ⟨_, rfl, (zt_in (j := 9) (k := 172) rfl rfl)⟩
set_option maxRecDepth 100000 in
theorem zt_e35_4 : zt_eOK "java/lang/AbstractStringBuilder" (26, 4, 329, 0, 9100) := ⟨_, rfl, (zt_in (j := 9) (k := 100) rfl rfl)⟩
set_option maxRecDepth 100000 in
theorem zt_e35_3 : zt_eOK "java/lang/AbstractStringBuilder" (22, 0, 1, 1, 9108) := ⟨_, "java/lang/AbstractStringBuilder", rfl, by decide, (zt_in (j := 9) (k := 108) rfl rfl), Or.inl rfl⟩
set_option maxRecDepth 100000 in
theorem zt_e35_2 : zt_eOK "java/lang/AbstractStringBuilder" (18, 14, 6, 0, 9099) := ⟨_, rfl, (zt_in (j := 9) (k := 99) rfl rfl)⟩
set_option maxRecDepth 100000 in
theorem zt_e35_1 : zt_eOK "java/lang/AbstractStringBuilder" (15, 0, 1, 0, 9107) := ⟨_, "java/lang/AbstractStringBuilder", rfl, by decide, (zt_in (j := 9) (k := 107) rfl rfl), Or.inl rfl⟩
set_option maxRecDepth 100000 in
theorem zt_e35_0 : zt_eOK "java/lang/AbstractStringBuilder" (3, 10, 0, 0, 9098) := (zt_in (j := 9) (k := 98) rfl rfl)
theorem zt_pl35_ok : ∀ e ∈ zt_pl35, zt_eOK "java/lang/AbstractStringBuilder" e := List.forall_mem_cons.mpr ⟨zt_e35_0, List.forall_mem_cons.mpr ⟨zt_e35_1, List.forall_mem_cons.mpr ⟨zt_e35_2, List.forall_mem_cons.mpr ⟨zt_e35_3, List.forall_mem_cons.mpr ⟨zt_e35_4, List.forall_mem_cons.mpr ⟨zt_e35_5, List.forall_mem_cons.mpr ⟨zt_e35_6, List.forall_mem_cons.mpr ⟨zt_e35_7, List.forall_mem_cons.mpr ⟨zt_e35_8, List.forall_mem_cons.mpr ⟨zt_e35_9, List.forall_mem_cons.mpr ⟨zt_e35_10, List.forall_mem_cons.mpr ⟨zt_e35_11, List.forall_mem_cons.mpr ⟨zt_e35_12, List.forall_mem_cons.mpr ⟨zt_e35_13, List.forall_mem_cons.mpr ⟨zt_e35_14, List.forall_mem_cons.mpr ⟨zt_e35_15, fun _ h => absurd h List.not_mem_nil⟩⟩⟩⟩⟩⟩⟩⟩⟩⟩⟩⟩⟩⟩⟩⟩
set_option maxRecDepth 100000 in
theorem zt_lc35_ok : ∀ e ∈ zt_lc35, Cond.constantLong "java/lang/AbstractStringBuilder" e.1 e.2.1 ∈ zt_good := fun _ h => absurd h List.not_mem_nil
/-- what a call through List stands on -/
def zt_iOK (e : MethodName × Nat) : Prop := ∃ (y : MethodName) (cc : ByteArray) (nL : Nat) (ret : Option FieldType) (oc np hsel : Nat), zt_m[e.2]? = some (y, cc, nL, ret, [], oc, np, 0, 0, hsel, 0) ∧ 0 < e.2 ∧ y.cls = "java/util/ArrayList" ∧ Cond.selects "java/util/ArrayList" e.1 y ∈ zt_good ∧ Cond.declares e.1 ∈ lw_tbl ∧ Cond.interfaceMethod e.1.cls e.1.cls e.1.name e.1.desc ∈ lw_tbl ∧ Cond.publicMethod y ∈ lw_tbl ∧ Cond.unhidden "java/util/ArrayList" e.1.name e.1.desc ∈ lw_tbl ∧ Cond.castable "java/util/ArrayList" e.1.cls ∈ lw_tbl ∧ (e.1.cls ≠ "java/lang/invoke/MethodHandle" ∧ e.1.cls ≠ "java/lang/invoke/VarHandle") ∧ (parseMethodDescriptor e.1.desc).map (fun d => d.parameters.length) = some np
set_option maxRecDepth 100000 in
theorem zt_ift_ok : ∀ e ∈ zt_ift, zt_iOK e := List.forall_mem_cons.mpr ⟨⟨_, _, _, _, _, 0, _, rfl, by decide, rfl, (zt_in (j := 6) (k := 168) rfl rfl), (zt_ch_in (j := 6) (List.mem_of_getElem? (i := 166) rfl)), (zt_ch_in (j := 6) (List.mem_of_getElem? (i := 165) rfl)), (zt_ch_in (j := 6) (List.mem_of_getElem? (i := 171) rfl)), (zt_ch_in (j := 6) (List.mem_of_getElem? (i := 169) rfl)), (zt_ch_in (j := 6) (List.mem_of_getElem? (i := 167) rfl)), by decide +kernel, by decide +kernel⟩, List.forall_mem_cons.mpr ⟨⟨_, _, _, _, _, 1, _, rfl, by decide, rfl, (zt_in (j := 6) (k := 177) rfl rfl), (zt_ch_in (j := 6) (List.mem_of_getElem? (i := 176) rfl)), (zt_ch_in (j := 6) (List.mem_of_getElem? (i := 175) rfl)), (zt_ch_in (j := 6) (List.mem_of_getElem? (i := 180) rfl)), (zt_ch_in (j := 6) (List.mem_of_getElem? (i := 178) rfl)), (zt_ch_in (j := 6) (List.mem_of_getElem? (i := 167) rfl)), by decide +kernel, by decide +kernel⟩, List.forall_mem_cons.mpr ⟨⟨_, _, _, _, _, 1, _, rfl, by decide, rfl, (zt_in (j := 6) (k := 195) rfl rfl), (zt_ch_in (j := 6) (List.mem_of_getElem? (i := 194) rfl)), (zt_ch_in (j := 6) (List.mem_of_getElem? (i := 193) rfl)), (zt_ch_in (j := 6) (List.mem_of_getElem? (i := 198) rfl)), (zt_ch_in (j := 6) (List.mem_of_getElem? (i := 196) rfl)), (zt_ch_in (j := 6) (List.mem_of_getElem? (i := 167) rfl)), by decide +kernel, by decide +kernel⟩, List.forall_mem_cons.mpr ⟨⟨_, _, _, _, _, 1, _, rfl, by decide, rfl, (zt_in (j := 7) (k := 125) rfl rfl), (zt_ch_in (j := 7) (List.mem_of_getElem? (i := 124) rfl)), (zt_ch_in (j := 7) (List.mem_of_getElem? (i := 123) rfl)), (zt_ch_in (j := 7) (List.mem_of_getElem? (i := 128) rfl)), (zt_ch_in (j := 7) (List.mem_of_getElem? (i := 126) rfl)), (zt_ch_in (j := 6) (List.mem_of_getElem? (i := 167) rfl)), by decide +kernel, by decide +kernel⟩, List.forall_mem_cons.mpr ⟨⟨_, _, _, _, _, 2, _, rfl, by decide, rfl, (zt_in (j := 7) (k := 226) rfl rfl), (zt_ch_in (j := 7) (List.mem_of_getElem? (i := 225) rfl)), (zt_ch_in (j := 7) (List.mem_of_getElem? (i := 224) rfl)), (zt_ch_in (j := 7) (List.mem_of_getElem? (i := 229) rfl)), (zt_ch_in (j := 7) (List.mem_of_getElem? (i := 227) rfl)), (zt_ch_in (j := 6) (List.mem_of_getElem? (i := 167) rfl)), by decide +kernel, by decide +kernel⟩, List.forall_mem_cons.mpr ⟨⟨_, _, _, _, _, 0, _, rfl, by decide, rfl, (zt_in (j := 9) (k := 40) rfl rfl), (zt_ch_in (j := 9) (List.mem_of_getElem? (i := 39) rfl)), (zt_ch_in (j := 9) (List.mem_of_getElem? (i := 38) rfl)), (zt_ch_in (j := 9) (List.mem_of_getElem? (i := 43) rfl)), (zt_ch_in (j := 9) (List.mem_of_getElem? (i := 41) rfl)), (zt_ch_in (j := 6) (List.mem_of_getElem? (i := 167) rfl)), by decide +kernel, by decide +kernel⟩, List.forall_mem_cons.mpr ⟨⟨_, _, _, _, _, 2, _, rfl, by decide, rfl, (zt_in (j := 9) (k := 76) rfl rfl), (zt_ch_in (j := 9) (List.mem_of_getElem? (i := 75) rfl)), (zt_ch_in (j := 9) (List.mem_of_getElem? (i := 74) rfl)), (zt_ch_in (j := 9) (List.mem_of_getElem? (i := 79) rfl)), (zt_ch_in (j := 9) (List.mem_of_getElem? (i := 77) rfl)), (zt_ch_in (j := 6) (List.mem_of_getElem? (i := 167) rfl)), by decide +kernel, by decide +kernel⟩, List.forall_mem_cons.mpr ⟨⟨_, _, _, _, _, 0, _, rfl, by decide, rfl, (zt_in (j := 10) (k := 87) rfl rfl), (zt_ch_in (j := 10) (List.mem_of_getElem? (i := 86) rfl)), (zt_ch_in (j := 10) (List.mem_of_getElem? (i := 85) rfl)), (zt_ch_in (j := 10) (List.mem_of_getElem? (i := 90) rfl)), (zt_ch_in (j := 10) (List.mem_of_getElem? (i := 88) rfl)), (zt_ch_in (j := 6) (List.mem_of_getElem? (i := 167) rfl)), by decide +kernel, by decide +kernel⟩, fun _ h => absurd h List.not_mem_nil⟩⟩⟩⟩⟩⟩⟩⟩
set_option maxRecDepth 100000 in
theorem zt_acopy : Cond.native arraycopyName ∈ zt_good ∧ Cond.static arraycopyName ∈ zt_good ∧ Cond.initialized "java/lang/System" ∈ zt_good := ⟨(zt_in (j := 2) (k := 124) rfl rfl), (zt_in (j := 2) (k := 123) rfl rfl), (zt_in (j := 1) (k := 19) rfl rfl)⟩
theorem zt_pl_ok {oc : Nat} {own : String} {l : List (Nat × Nat × Nat × Nat × Nat)} (ho : zt_on[oc]? = some own) (h : zt_pl[oc]? = some l) : ∀ e ∈ l, zt_eOK own e := by
  match oc, ho, h with
  | 0, ho, h => cases ho; cases h; exact zt_pl0_ok
  | 1, ho, h => cases ho; cases h; exact zt_pl1_ok
  | 2, ho, h => cases ho; cases h; exact zt_pl2_ok
  | 3, ho, h => cases ho; cases h; exact zt_pl3_ok
  | 4, ho, h => cases ho; cases h; exact zt_pl4_ok
  | 5, ho, h => cases ho; cases h; exact zt_pl5_ok
  | 6, ho, h => cases ho; cases h; exact zt_pl6_ok
  | 7, ho, h => cases ho; cases h; exact zt_pl7_ok
  | 8, ho, h => cases ho; cases h; exact zt_pl8_ok
  | 9, ho, h => cases ho; cases h; exact zt_pl9_ok
  | 10, ho, h => cases ho; cases h; exact zt_pl10_ok
  | 11, ho, h => cases ho; cases h; exact zt_pl11_ok
  | 12, ho, h => cases ho; cases h; exact zt_pl12_ok
  | 13, ho, h => cases ho; cases h; exact zt_pl13_ok
  | 14, ho, h => cases ho; cases h; exact zt_pl14_ok
  | 15, ho, h => cases ho; cases h; exact zt_pl15_ok
  | 16, ho, h => cases ho; cases h; exact zt_pl16_ok
  | 17, ho, h => cases ho; cases h; exact zt_pl17_ok
  | 18, ho, h => cases ho; cases h; exact zt_pl18_ok
  | 19, ho, h => cases ho; cases h; exact zt_pl19_ok
  | 20, ho, h => cases ho; cases h; exact zt_pl20_ok
  | 21, ho, h => cases ho; cases h; exact zt_pl21_ok
  | 22, ho, h => cases ho; cases h; exact zt_pl22_ok
  | 23, ho, h => cases ho; cases h; exact zt_pl23_ok
  | 24, ho, h => cases ho; cases h; exact zt_pl24_ok
  | 25, ho, h => cases ho; cases h; exact zt_pl25_ok
  | 26, ho, h => cases ho; cases h; exact zt_pl26_ok
  | 27, ho, h => cases ho; cases h; exact zt_pl27_ok
  | 28, ho, h => cases ho; cases h; exact zt_pl28_ok
  | 29, ho, h => cases ho; cases h; exact zt_pl29_ok
  | 30, ho, h => cases ho; cases h; exact zt_pl30_ok
  | 31, ho, h => cases ho; cases h; exact zt_pl31_ok
  | 32, ho, h => cases ho; cases h; exact zt_pl32_ok
  | 33, ho, h => cases ho; cases h; exact zt_pl33_ok
  | 34, ho, h => cases ho; cases h; exact zt_pl34_ok
  | 35, ho, h => cases ho; cases h; exact zt_pl35_ok
  | k + 36, ho, h => exact absurd ho (by simp [zt_on])
theorem zt_lc_ok {oc : Nat} {own : String} {l : List (Nat × Int64 × Nat)} (ho : zt_on[oc]? = some own) (h : zt_lc[oc]? = some l) : ∀ e ∈ l, Cond.constantLong own e.1 e.2.1 ∈ zt_good := by
  match oc, ho, h with
  | 0, ho, h => cases ho; cases h; exact zt_lc0_ok
  | 1, ho, h => cases ho; cases h; exact zt_lc1_ok
  | 2, ho, h => cases ho; cases h; exact zt_lc2_ok
  | 3, ho, h => cases ho; cases h; exact zt_lc3_ok
  | 4, ho, h => cases ho; cases h; exact zt_lc4_ok
  | 5, ho, h => cases ho; cases h; exact zt_lc5_ok
  | 6, ho, h => cases ho; cases h; exact zt_lc6_ok
  | 7, ho, h => cases ho; cases h; exact zt_lc7_ok
  | 8, ho, h => cases ho; cases h; exact zt_lc8_ok
  | 9, ho, h => cases ho; cases h; exact zt_lc9_ok
  | 10, ho, h => cases ho; cases h; exact zt_lc10_ok
  | 11, ho, h => cases ho; cases h; exact zt_lc11_ok
  | 12, ho, h => cases ho; cases h; exact zt_lc12_ok
  | 13, ho, h => cases ho; cases h; exact zt_lc13_ok
  | 14, ho, h => cases ho; cases h; exact zt_lc14_ok
  | 15, ho, h => cases ho; cases h; exact zt_lc15_ok
  | 16, ho, h => cases ho; cases h; exact zt_lc16_ok
  | 17, ho, h => cases ho; cases h; exact zt_lc17_ok
  | 18, ho, h => cases ho; cases h; exact zt_lc18_ok
  | 19, ho, h => cases ho; cases h; exact zt_lc19_ok
  | 20, ho, h => cases ho; cases h; exact zt_lc20_ok
  | 21, ho, h => cases ho; cases h; exact zt_lc21_ok
  | 22, ho, h => cases ho; cases h; exact zt_lc22_ok
  | 23, ho, h => cases ho; cases h; exact zt_lc23_ok
  | 24, ho, h => cases ho; cases h; exact zt_lc24_ok
  | 25, ho, h => cases ho; cases h; exact zt_lc25_ok
  | 26, ho, h => cases ho; cases h; exact zt_lc26_ok
  | 27, ho, h => cases ho; cases h; exact zt_lc27_ok
  | 28, ho, h => cases ho; cases h; exact zt_lc28_ok
  | 29, ho, h => cases ho; cases h; exact zt_lc29_ok
  | 30, ho, h => cases ho; cases h; exact zt_lc30_ok
  | 31, ho, h => cases ho; cases h; exact zt_lc31_ok
  | 32, ho, h => cases ho; cases h; exact zt_lc32_ok
  | 33, ho, h => cases ho; cases h; exact zt_lc33_ok
  | 34, ho, h => cases ho; cases h; exact zt_lc34_ok
  | 35, ho, h => cases ho; cases h; exact zt_lc35_ok
  | k + 36, ho, h => exact absurd ho (by simp [zt_on])
theorem zt_at_ok : ∀ (t : Nat) (ty : FieldType), zt_at[t]? = some ty → (((∀ C, ty ≠ .object C) ∧ Cond.arrayClass ty ∈ zt_good) ∨ ∃ C, ty = .object C ∧ Cond.arrayOver ty ∈ lw_tbl) := by
  intro t ty h
  match t, h with
  | 0, h => cases h; exact Or.inr ⟨_, rfl, zt_ch_in (j := 1) (List.mem_of_getElem? (i := 57) rfl)⟩
  | 1, h => cases h; exact Or.inl ⟨fun C h => FieldType.noConfusion h, (zt_in (j := 1) (k := 94) rfl rfl)⟩
  | 2, h => cases h; exact Or.inl ⟨fun C h => FieldType.noConfusion h, (zt_in (j := 1) (k := 95) rfl rfl)⟩
  | 3, h => cases h; exact Or.inl ⟨fun C h => FieldType.noConfusion h, (zt_in (j := 2) (k := 76) rfl rfl)⟩
  | 4, h => cases h; exact Or.inr ⟨_, rfl, zt_ch_in (j := 6) (List.mem_of_getElem? (i := 103) rfl)⟩
  | 5, h => cases h; exact Or.inr ⟨_, rfl, zt_ch_in (j := 7) (List.mem_of_getElem? (i := 15) rfl)⟩
  | 6, h => cases h; exact Or.inl ⟨fun C h => FieldType.noConfusion h, (zt_in (j := 8) (k := 239) rfl rfl)⟩
  | 7, h => cases h; exact Or.inl ⟨fun C h => FieldType.noConfusion h, (zt_in (j := 10) (k := 161) rfl rfl)⟩
  | k + 8, h => exact absurd h (by simp [zt_at])
theorem zt_atc_ok : ∀ (t ci : Nat) (C : String), zt_at[t]? = some (.object C) → zt_atc[t]? = some ci → ci ≠ 999 → (zt_cl[ci]?).map (·.1) = some C := by
  intro t ci C h h2 h3
  match t, h, h2 with
  | 0, h, h2 => cases h; cases h2; exact rfl
  | 1, h, h2 => cases h
  | 2, h, h2 => cases h
  | 3, h, h2 => cases h
  | 4, h, h2 => cases h; cases h2; exact rfl
  | 5, h, h2 => cases h2; exact absurd rfl h3
  | 6, h, h2 => cases h
  | 7, h, h2 => cases h
  | k + 8, h, h2 => exact absurd h (by simp [zt_at])
end
section
/-! ===== heap steps are the kit's rows ===== -/
theorem zx_fp_mem {β : Type} {i : Nat} {v : β} : ∀ {l : List (Nat × β)}, zx_fp i l = some v → (i, v) ∈ l
  | [], h => by cases h
  | (j, w) :: r, h => by
    unfold zx_fp at h
    split at h
    · next e => cases h; subst e; exact List.mem_cons_self
    · exact List.mem_cons_of_mem _ (zx_fp_mem h)
theorem zx_pool_ok {oc i : Nat} {own : String} (ho : zt_on[oc]? = some own) {e : Nat × Nat × Nat × Nat} (h : zx_pool oc i = some e) : zt_eOK own (i, e) := by
  simp only [zx_pool, Option.bind_eq_some_iff] at h
  obtain ⟨l, hl, h1⟩ := h
  exact zt_pl_ok ho hl _ (zx_fp_mem h1)
theorem zx_lng_ok {oc i : Nat} {own : String} (ho : zt_on[oc]? = some own) {e : Int64 × Nat} (h : zx_lng oc i = some e) : Cond.constantLong own i e.1 ∈ zt_good := by
  simp only [zx_lng, Option.bind_eq_some_iff] at h
  obtain ⟨l, hl, h1⟩ := h
  exact zt_lc_ok ho hl _ (zx_fp_mem h1)
theorem zx_fi_at {ty : FieldType} : ∀ {l : List FieldType} {k t : Nat}, zx_fi ty k l = some t → k ≤ t ∧ l[t - k]? = some ty
  | [], _, _, h => by cases h
  | a :: r, k, t, h => by
    unfold zx_fi at h
    split at h
    · next e =>
      cases h
      subst e
      exact ⟨Nat.le_refl _, by rw [Nat.sub_self]; rfl⟩
    · obtain ⟨h1, h2⟩ := zx_fi_at h
      refine ⟨by omega, ?_⟩
      rw [show t - k = (t - (k + 1)) + 1 by omega]
      exact h2
theorem zx_at_ok {ty : FieldType} {t : Nat} (h : zx_at ty = some t) : zt_at[t]? = some ty := by
  have h1 := (zx_fi_at h).2
  rwa [Nat.sub_zero] at h1
/-- abstract cells as real ones -/
def zx_e (dA : Nat → ClassId) (a : Nat → Nat) : zx_E → va_E
  | .inl (t, n, .inl f) => .inl (dA t, n, .inl f)
  | .inl (t, n, .inr (.inl f)) => .inl (dA t, n, .inr (.inl f))
  | .inl (t, n, .inr (.inr (.inl f))) => .inl (dA t, n, .inr (.inr (.inl f)))
  | .inl (t, n, .inr (.inr (.inr (.inl f)))) => .inl (dA t, n, .inr (.inr (.inr (.inl f))))
  | .inl (t, n, .inr (.inr (.inr (.inr f)))) => .inl (dA t, n, .inr (.inr (.inr (.inr (fun j => (f j).map a)))))
  | .inr (c, vs) => .inr (c, vs.map (zx_v a))
def zx_w (dA : Nat → ClassId) (B : Nat) (a : Nat → Nat) (h : zx_H) : va_W := h.mapIdx (fun k e => (B + k, zx_e dA a e))
theorem zx_w_get {dA : Nat → ClassId} {B : Nat} {a : Nat → Nat} {h : zx_H} {k : Nat} {e : zx_E} (hk : h[k]? = some e) : (zx_w dA B a h)[k]? = some (B + k, zx_e dA a e) := by
  simp [zx_w, List.getElem?_mapIdx, hk]
theorem zx_w_set {dA : Nat → ClassId} {B : Nat} {a : Nat → Nat} {h : zx_H} {k : Nat} {e : zx_E} : (zx_w dA B a h).set k (B + k, zx_e dA a e) = zx_w dA B a (h.set k e) := by
  apply List.ext_getElem?
  intro j
  simp only [zx_w, List.getElem?_mapIdx, List.getElem?_set, List.length_mapIdx]
  by_cases hj : k = j
  · subst hj
    by_cases hl : k < h.length
    · simp [hl]
    · simp [hl]
  · simp [hj]
theorem zx_w_push {dA : Nat → ClassId} {B : Nat} {a : Nat → Nat} {h : zx_H} {e : zx_E} : zx_w dA B a (h ++ [e]) = zx_w dA B a h ++ [(B + h.length, zx_e dA a e)] := by
  simp [zx_w, List.mapIdx_append]
theorem zx_w_len {dA : Nat → ClassId} {B : Nat} {a : Nat → Nat} {h : zx_H} : (zx_w dA B a h).length = h.length := by simp [zx_w]
theorem zx_w_inv {dA : Nat → ClassId} {B : Nat} {a : Nat → Nat} {h : zx_H} {k : Nat} {q : Nat × va_E} (hk : (zx_w dA B a h)[k]? = some q) : q.1 = B + k ∧ k < h.length := by
  simp only [zx_w, List.getElem?_mapIdx, Option.map_eq_some_iff] at hk
  obtain ⟨e, h1, h2⟩ := hk
  exact ⟨by rw [← h2], (List.getElem?_eq_some_iff.mp h1).1⟩
theorem zx_w_D {dA : Nat → ClassId} {B : Nat} {a : Nat → Nat} {h : zx_H} : va_D (fun q => B ≤ q) (zx_w dA B a h) := by
  refine ⟨fun i j x y hi hj hxy => ?_, fun k q hk => ?_⟩
  · have h1 := (zx_w_inv hi).1
    have h2 := (zx_w_inv hj).1
    omega
  · have h1 := (zx_w_inv hk).1
    show B ≤ q.1
    omega
abbrev zx_tys (dA : Nat → ClassId) : List (ClassId × FieldType) := zt_at.mapIdx (fun t ty => (dA t, ty))
theorem zx_tys_get {dA : Nat → ClassId} {t : Nat} {ty : FieldType} (h : zt_at[t]? = some ty) : (zx_tys dA)[t]? = some (dA t, ty) := by
  simp [zx_tys, List.getElem?_mapIdx, h]
/-- how the heap looks, with the room's book -/
def zx_S (D : va_G) (dA : Nat → ClassId) (B : Nat) (a : Nat → Nat) (n0 z0 : Nat) (s : State) (h : zx_H) (H : Heap) (locs : List Loc) (cells slots : Nat) : Prop :=
  va_P D zt_cl (zx_w dA B a h) H ∧ va_S (fun q => B ≤ q) s.heap H locs ∧ n0 + cells = h.length ∧ s.heap.size = B + n0 ∧ z0 + slots = zx_sz h ∧ h.length ≤ zx_lim
/-- what else the tables say: arrays of references, texts, exceptions that are none of another kind -/
def zx_K2 (s : State) : Prop := (∀ C, Cond.arrayOver (.object C) ∈ lw_tbl → va_AO C s) ∧ (∀ own i tx, Cond.stringRef own i tx ∈ lw_tbl → ∃ sa, vk_R own i tx sa s) ∧
  (∀ (c d : Nat) (r1 r2 : vw_C), zt_x0 ≤ c → zt_x0 ≤ d → c ≠ d → zt_cl[c]? = some r1 → zt_cl[d]? = some r2 → va_Nc r1.1 r2.1 s)
/-- a cell that stood before: what is said of it -/
def zx_xe (B : Nat) (a : Nat → Nat) (U : State) (H : Heap) (k : Nat) (q : FieldType × zx_E) : Prop := match q with
  | (ty, .inl (_, n, .inl f)) => va_T ty (a k) n (fun j => .int (f j)) (fun x => B ≤ x) U H
  | (ty, .inl (_, n, .inr (.inr (.inr (.inr f))))) => va_T ty (a k) n (fun j => zx_v a (zx_rf (f j))) (fun x => B ≤ x) U H
  | (.object C, .inr (ci, fs)) => va_O C (a k) (fun x => B ≤ x) U H ∧ (ci = 999 ∨ ∃ r, zt_cl[ci]? = some r ∧ r.1 = C ∧ ∀ i v, fs[i]? = some v → (∀ z, v ≠ .retAddr z) → i < r.2.2 ∧ va_OF (r.2.1 i).1 (r.2.1 i).2.1 (r.2.1 i).2.2.1 (zx_v a v) (a k) (fun x => B ≤ x) U H)
  | _ => False
def zx_XF (B : Nat) (a : Nat → Nat) (nf : Bool) (s : State) (H : Heap) : Prop := (∀ j q, zt_ext j = some q → zx_xe B a s H (zx_lim + 1 + j) q) ∧
  (∀ (x : Nat) (e : String × String × String) (v : Value), zt_stn[x]? = some e → (zt_stv nf)[x]? = some v → va_Z e.1 e.2.1 e.2.2 (zx_v a v) (fun x => B ≤ x) s H) ∧
  (∀ e ∈ zt_str, vk_R e.1 e.2.1 e.2.2.1 (a (zx_lim + 1 + e.2.2.2)) s) ∧ (∀ j q, zt_ext j = some q → a (zx_lim + 1 + j) < B) ∧
  (∀ e ∈ zt_ift, ∀ q, zt_m[e.2]? = some q → va_Fw "java/util/ArrayList" e.1 q.1 s)
def zx_H2 (B : Nat) (a : Nat → Nat) (nf : Bool) (s : State) (H : Heap) : Prop := zx_XF B a nf s H ∧ vx_Zq Bundle.tN "UNASSIGNED_STACK" Bundle.steD (fun q => B ≤ q) s H ∧ vx_Zq Bundle.tN "SUPPRESSED_SENTINEL" Bundle.listD (fun q => B ≤ q) s H
/-- what stays true while a method runs: the machine, its code, the tables -/
def zx_Cx (D : va_G) (dA : Nat → ClassId) (B : Nat) (a : Nat → Nat) (b : Nat) (sc : (Nat × (Nat → Int32)) × Bool) (oc : Nat) (own : String) (ini : Bool) (cc : ByteArray) (nL : Nat) (p : Program) (s : State) (m : MethodId) (args : Array Value) (meth : Method) (c : Code) : Prop :=
  p.tables.exec = Jvm.exec ∧ c.code = cc ∧ c.maxLocals = nL ∧ s.vm.findClass own = some m.cls ∧ zt_on[oc]? = some own ∧ (∀ w ∈ zt_good, w.before args s = true) ∧ (∀ w ∈ zt_nw, va_Nw w s) ∧ va_K D zt_cl (zx_tys dA) s ∧ (ini = true → meth.name = "<init>") ∧
  (∀ k, k < zx_lim → a k = B + k) ∧ a zx_lim = b ∧ b < B ∧ B ≤ s.heap.size ∧ va_X b sc.1.1 sc.1.2 s s.heap ∧ zx_K2 s ∧ zx_H2 B a sc.2 s s.heap
theorem zt_on_pre : zt_on.take zt_cl.length = zt_cl.map (·.1) := rfl
theorem zt_on_cl {ci : Nat} {own : String} {r : vw_C} (h1 : zt_on[ci]? = some own) (h2 : zt_cl[ci]? = some r) : r.1 = own := by
  have hl := (List.getElem?_eq_some_iff.mp h2).1
  have h3 : (zt_on.take zt_cl.length)[ci]? = some own := by rw [List.getElem?_take]; rw [if_pos hl]; exact h1
  rw [zt_on_pre, List.getElem?_map, h2] at h3
  exact Option.some.inj h3
section ZXH
variable {p : Program} {l : Launch} {e : Env} {R : Room} {s : State} {m : MethodId} {args : Array Value} {below : List Frame} {meth : Method} {c : Code} {H : Heap} {locs : List Loc} {cells slots : Nat} {Q : State → Prop} {cc : ByteArray} {pc nL : Nat} {ls : Array Slot} {lv : List (Nat × Value)} {st : List Value} {a : Nat → Nat}
variable {D : va_G} {dA : Nat → ClassId} {B b n0 z0 oc : Nat} {own : String} {ini : Bool} {sc : (Nat × (Nat → Int32)) × Bool} {h : zx_H}
/-- the goal goes on at f with the heap h' -/
def zx_KH (D : va_G) (dA : Nat → ClassId) (B : Nat) (n0 z0 : Nat) (p : Program) (l : Launch) (e : Env) (R : Room) (s : State) (m : MethodId) (args : Array Value) (below : List Frame) (meth : Method) (c : Code) (Q : State → Prop) (nL : Nat) (a : Nat → Nat) (q : zx_F × zx_H) : Prop :=
  ∀ (H' : Heap) (locs' : List Loc) (cells' slots' : Nat), zx_S D dA B a n0 z0 s q.2 H' locs' cells' slots' → zx_K p l e R s m args below meth c H' locs' cells' slots' Q nL a q.1
theorem zx_S_size (hS : zx_S D dA B a n0 z0 s h H locs cells slots) {T : State} (hT : T.heap = H) (X : Stand p l e R s m args below meth c T locs cells slots) : H.size = B + h.length := by
  obtain ⟨hP, hV, hn, hs, -, -⟩ := hS
  have h1 : T.heap.size ≤ s.heap.size + cells := X.same.2.2.1
  rw [hT] at h1
  have h2 : s.heap.size ≤ H.size := hV.1
  rcases Nat.eq_zero_or_pos h.length with h0 | h0
  · omega
  · obtain ⟨e0, he⟩ : ∃ e0, h[h.length - 1]? = some e0 := ⟨_, List.getElem?_eq_getElem (by omega)⟩
    have h3 := (hP _ _ (zx_w_get he)).lt
    dsimp only at h3
    omega
theorem zx_sz_set {k : Nat} {e0 e1 : zx_E} (hk : h[k]? = some e0) (hz : zx_sz1 e1 = zx_sz1 e0) : zx_sz (h.set k e1) = zx_sz h := by
  have h1 : (h.set k e1).map zx_sz1 = h.map zx_sz1 := by
    apply List.ext_getElem?
    intro j
    simp only [List.getElem?_map, List.getElem?_set]
    by_cases hj : k = j
    · subst hj
      by_cases hl : k < h.length
      · rw [if_pos rfl, if_pos hl, hk]
        simp [hz]
      · rw [if_pos rfl, if_neg hl]
        rw [List.getElem?_eq_none (by omega)] at hk
        cases hk
    · rw [if_neg hj]
  unfold zx_sz
  rw [h1]
theorem zx_S_set (hS : zx_S D dA B a n0 z0 s h H locs cells slots) {k : Nat} {e0 e1 : zx_E} (hk : h[k]? = some e0) (hz : zx_sz1 e1 = zx_sz1 e0) {H1 : Heap} {locs1 : List Loc} (hP : va_P D zt_cl ((zx_w dA B a h).set k (B + k, zx_e dA a e1)) H1) (hV : va_S (fun q => B ≤ q) s.heap H1 locs1) : zx_S D dA B a n0 z0 s (h.set k e1) H1 locs1 cells slots := by
  obtain ⟨-, -, hn, hs, hzz, hlm⟩ := hS
  rw [zx_w_set] at hP
  exact ⟨hP, hV, by rw [List.length_set]; exact hn, hs, by rw [zx_sz_set hk hz]; exact hzz, by rw [List.length_set]; exact hlm⟩
theorem zx_push_q (hS : zx_S D dA B a n0 z0 s h H locs cells slots) {q : Nat} {H1 : Heap} {e1 : va_E} {slots1 : Nat} (hP : va_P D zt_cl (zx_w dA B a h ++ [(q, e1)]) H1) (hD : va_D (fun q => B ≤ q) (zx_w dA B a h ++ [(q, e1)])) {T : State} (hT : T.heap = H1) (X : Stand p l e R s m args below meth c T locs (cells + 1) slots1) : q = B + h.length := by
  obtain ⟨-, hV, hn, hs, -, -⟩ := hS
  have h1 : T.heap.size ≤ s.heap.size + (cells + 1) := X.same.2.2.1
  rw [hT] at h1
  have hl : (zx_w dA B a h ++ [(q, e1)])[h.length]? = some (q, e1) := by
    rw [List.getElem?_append_right (by rw [zx_w_len]; exact Nat.le_refl _), zx_w_len, Nat.sub_self]
    rfl
  have h2 := (hP _ _ hl).lt
  dsimp only at h2
  have h3 : B ≤ q := hD.2 _ _ hl
  rcases Nat.lt_or_ge (q - B) h.length with h4 | h4
  · obtain ⟨e0, he⟩ : ∃ e0, h[q - B]? = some e0 := ⟨_, List.getElem?_eq_getElem h4⟩
    have h5 : (zx_w dA B a h ++ [(q, e1)])[q - B]? = some (B + (q - B), zx_e dA a e0) := by
      rw [List.getElem?_append_left (by rw [zx_w_len]; exact h4)]
      exact zx_w_get he
    have h6 := hD.1 (q - B) h.length _ _ h5 hl (by dsimp only; omega)
    omega
  · omega
theorem zx_S_push (hS : zx_S D dA B a n0 z0 s h H locs cells slots) {e1 : zx_E} {N : Nat} (hN : zx_sz1 e1 = N) (hlim : h.length < zx_lim) {H1 : Heap} (hP : va_P D zt_cl (zx_w dA B a h ++ [(B + h.length, zx_e dA a e1)]) H1) (hV : va_S (fun q => B ≤ q) s.heap H1 locs) : zx_S D dA B a n0 z0 s (h ++ [e1]) H1 locs (cells + 1) (slots + N) := by
  obtain ⟨-, -, hn, hs, hzz, -⟩ := hS
  rw [← zx_w_push] at hP
  refine ⟨hP, hV, by simp; omega, hs, ?_, by simp; omega⟩
  have : zx_sz (h ++ [e1]) = zx_sz h + N := by simp [zx_sz, hN]
  omega
theorem zx_S_q (hS : zx_S D dA B a n0 z0 s h H locs cells slots) (ha : ∀ k, k < zx_lim → a k = B + k) {q : Nat} {e0 : zx_E} (hq : h[q]? = some e0) : a q = B + q := by
  have h1 := (List.getElem?_eq_some_iff.mp hq).1
  exact ha q (Nat.lt_of_lt_of_le h1 hS.2.2.2.2.2)
theorem zx_same {ref : String} {r : vw_C} {k : Nat} (hts : ∀ w ∈ zt_good, w.before args s = true) (h : ref = (r.2.1 k).1 ∨ Cond.sameField ref (r.2.1 k).1 (r.2.1 k).2.1 (r.2.1 k).2.2.1 ∈ zt_good) : ∀ x, s.fieldFound? (r.2.1 k).1 (r.2.1 k).2.1 (r.2.1 k).2.2.1 = some x → s.fieldFound? ref (r.2.1 k).2.1 (r.2.1 k).2.2.1 = some x := by
  intro x hx
  rcases h with h | h
  · rw [h]; exact hx
  · exact u_same (hts _ h) x hx
theorem zx_uws {r : vw_C} {ci : Nat} (hr : zt_cl[ci]? = some r) : ∀ w ∈ u_ws r.1 r.2.1 r.2.2, w ∈ zt_good := by
  intro w hw
  obtain ⟨k, hk, rfl⟩ := List.mem_map.mp hw
  exact (zt_cl_ok hr).1 k (List.mem_range.mp hk)
theorem zx_get_ok (C : zx_Cx D dA B a b sc oc own ini cc nL p s m args meth c) (hS : zx_S D dA B a n0 z0 s h H locs cells slots) {i q : Nat} {v : Value} {rest : List Value} (hd : decode cc pc = .ok (.getfield i, 3)) (h1 : zx_getf oc i q h = some v)
    (k : W p l e R s m args below meth c H locs cells slots Q (F0 m (pc + 3) ls (zx_v a v :: rest))) : W p l e R s m args below meth c H locs cells slots Q (F0 m pc ls (.ref (a q) :: rest)) := by
  obtain ⟨hx, hb, hml, hown, hon, hts, hnw, hK, hini, ha, hab, hbB, hBs, hX, hK2, hH2⟩ := C
  unfold zx_getf at h1
  split at h1
  · next kd ci kk hh hpl =>
    split at h1
    · next cj fs hq =>
      split at h1
      · next hc =>
        obtain ⟨hkd, rfl⟩ := hc
        have he := zx_pool_ok hon hpl
        have hv : (fs.map (zx_v a))[kk]? = some (zx_v a v) := by simp [h1]
        rw [zx_S_q hS ha hq]
        match kd, hkd, he with
        | 0, _, he =>
          obtain ⟨r, ref, hr, hkN, hw, hsm⟩ := he
          exact va_get (C := r.1) (T := r.2.1) (N := r.2.2) hx hb hts (zx_uws hr) hown hK hS.1 q (zx_w_get hq) hr kk hkN (hts _ hw) (zx_same hts hsm) hv hd k
        | 1, _, he =>
          obtain ⟨r, host, hr, hkN, hw⟩ := he
          exact va_getN (C := r.1) (T := r.2.1) (N := r.2.2) hx hb hts (zx_uws hr) hown hK hS.1 q (zx_w_get hq) hr kk hkN (va_Nw.use rfl (hnw _ hw)) (fun _ h9 => h9) hv hd k
        | kd + 2, hkd, _ => exact absurd hkd (by omega)
      · cases h1
    · cases h1
  · cases h1
theorem zx_put_ok (C : zx_Cx D dA B a b sc oc own ini cc nL p s m args meth c) (hS : zx_S D dA B a n0 z0 s h H locs cells slots) {i q : Nat} {v : Value} {rest : List Value} {h' : zx_H} (hd : decode cc pc = .ok (.putfield i, 3)) (h1 : zx_putf oc i q ini v h = some h')
    (k : ∀ H' locs', zx_S D dA B a n0 z0 s h' H' locs' cells slots → W p l e R s m args below meth c H' locs' cells slots Q (F0 m (pc + 3) ls rest)) : W p l e R s m args below meth c H locs cells slots Q (F0 m pc ls (zx_v a v :: .ref (a q) :: rest)) := by
  obtain ⟨hx, hb, hml, hown, hon, hts, hnw, hK, hini, ha, hab, hbB, hBs, hX, hK2, hH2⟩ := C
  unfold zx_putf at h1
  split at h1
  · next kd ci kk hh hpl =>
    split at h1
    · next cj fs hq =>
      split at h1
      · next hc =>
        obtain ⟨rfl, hlt, hn, hf, hor⟩ := hc
        cases h1
        have he := zx_pool_ok hon hpl
        rw [zx_S_q hS ha hq]
        have hn' : narrow (zx_ftype cj kk) (zx_v a v) = zx_v a v := by
          cases v <;> first | exact hn | (cases (zx_ftype cj kk) <;> rfl)
        have hf' : fits (zx_ftype cj kk) (zx_v a v) = true := by
          cases v <;> first | exact hf | (revert hf; cases (zx_ftype cj kk) <;> exact id)
        have hset : ∀ H1 locs1, va_P D zt_cl ((zx_w dA B a h).set q (B + q, .inr (cj, (fs.map (zx_v a)).set kk (zx_v a v)))) H1 → va_S (fun q => B ≤ q) s.heap H1 locs1 → zx_S D dA B a n0 z0 s (h.set q (.inr (cj, fs.set kk v))) H1 locs1 cells slots := by
          intro H1 locs1 hP1 hV1
          refine zx_S_set (e1 := .inr (cj, fs.set kk v)) hS hq rfl ?_ hV1
          rw [← List.map_set] at hP1
          exact hP1
        rcases hor with ⟨hkd, hfin⟩ | ⟨rfl, hi0, hfin, rfl, how⟩
        · match kd, hkd, he with
          | 0, _, he =>
            obtain ⟨r, ref, hr, hkN, hw, hsm⟩ := he
            have hok := zt_cl_ok hr
            have hfin' : (r.2.1 kk).2.2.2 = false := by simpa [zx_fin, hr] using hfin
            exact va_put (C := r.1) (T := r.2.1) (N := r.2.2) hx hb hts (zx_uws hr) (fun k => (zt_fty.getD cj []).getD k .int) hok.2.1 hok.2.2.1 hown hK hS.1 zx_w_D hS.2.1 q (zx_w_get hq) hr kk hkN (hts _ hw) (zx_same hts hsm) hfin' (hok.2.1 kk hkN) hn' hf' (by simpa using hlt) hd (fun H1 locs1 hP1 _ hV1 => k H1 locs1 (hset H1 locs1 hP1 hV1))
          | 1, _, he =>
            obtain ⟨r, host, hr, hkN, hw⟩ := he
            have hok := zt_cl_ok hr
            have hfin' : (r.2.1 kk).2.2.2 = false := by simpa [zx_fin, hr] using hfin
            exact va_putN (C := r.1) (T := r.2.1) (N := r.2.2) hx hb hts (zx_uws hr) (fun k => (zt_fty.getD cj []).getD k .int) hok.2.1 hok.2.2.1 hown hK hS.1 zx_w_D hS.2.1 q (zx_w_get hq) hr kk hkN (va_Nw.use rfl (hnw _ hw)) (fun _ h9 => h9) hfin' (hok.2.1 kk hkN) hn' hf' (by simpa using hlt) hd (fun H1 locs1 hP1 _ hV1 => k H1 locs1 (hset H1 locs1 hP1 hV1))
          | kd + 2, hkd, _ => exact absurd hkd (by omega)
        · obtain ⟨r, ref, hr, hkN, hw, hsm⟩ := he
          have hok := zt_cl_ok hr
          have hfin' : (r.2.1 kk).2.2.2 = true := by simpa [zx_fin, hr] using hfin
          have how' : (r.2.1 kk).1 = own := by
            rw [hok.2.2.2.2.2 kk hkN how]
            exact zt_on_cl hon hr
          exact va_putF (C := r.1) (T := r.2.1) (N := r.2.2) hx hb hts (zx_uws hr) (fun k => (zt_fty.getD oc []).getD k .int) hok.2.1 hok.2.2.1 hown hK hS.1 zx_w_D hS.2.1 q (zx_w_get hq) hr kk hkN (hts _ hw) (zx_same hts hsm) hfin' (hini hi0) how' (hok.2.1 kk hkN) hn' hf' (by simpa using hlt) hd (fun H1 locs1 hP1 _ hV1 => k H1 locs1 (hset H1 locs1 hP1 hV1))
      · cases h1
    · cases h1
  · cases h1
end ZXH
end
section
section ZXI
variable {p : Program} {l : Launch} {e : Env} {R : Room} {s : State} {m : MethodId} {args : Array Value} {below : List Frame} {meth : Method} {c : Code} {H : Heap} {locs : List Loc} {cells slots : Nat} {Q : State → Prop} {cc : ByteArray} {pc nL : Nat} {ls : Array Slot} {lv : List (Nat × Value)} {st : List Value} {a : Nat → Nat}
variable {D : va_G} {dA : Nat → ClassId} {B b n0 z0 oc : Nat} {own : String} {ini : Bool} {sc : (Nat × (Nat → Int32)) × Bool} {h : zx_H}
theorem zx_def_ok {ci : Nat} {r : vw_C} (hr : zt_cl[ci]? = some r) (hlen : (zt_fty.getD ci []).length = r.2.2) (a : Nat → Nat) : ∀ j, j < r.2.2 → defaultValue ((zt_fty.getD ci []).getD j .int) = vp_V ((zx_def ci).map (zx_v a)) j := by
  intro j hj
  unfold zx_def
  generalize zt_fty.getD ci [] = L at hlen ⊢
  have h1 : L[j]? = some (L.getD j .int) := by
    rw [List.getD_eq_getElem?_getD, List.getElem?_eq_getElem (by omega)]
    rfl
  unfold vp_V
  rw [List.getD_eq_getElem?_getD (l := (L.map defaultValue).map (zx_v a)), List.getElem?_map, List.getElem?_map, h1]
  simp only [Option.map_some, Option.getD_some]
  cases L.getD j .int <;> rfl
theorem zt_fty_len : ∀ ci, ci < zt_x0 → (zt_fty.getD ci []).length = ((zt_cl[ci]?).map (·.2.2)).getD 0 ∧ zt_sz.getD ci 0 = ((zt_cl[ci]?).map (·.2.2)).getD 0 := by decide +kernel
theorem zx_new_ok (C : zx_Cx D dA B a b sc oc own ini cc nL p s m args meth c) (hS : zx_S D dA B a n0 z0 s h H locs cells slots) {i ci y hh : Nat} {rest : List Value} (hd : decode cc pc = .ok (.new i, 3)) (hp : zx_pool oc i = some (2, ci, y, hh)) (hci : ci < zt_x0) (hlim : h.length < zx_lim) (hc1 : cells + 1 ≤ R.cells) (hs1 : slots + zx_sz1 (.inr (ci, zx_def ci)) ≤ R.slots)
    (k : ∀ H', zx_S D dA B a n0 z0 s (h ++ [.inr (ci, zx_def ci)]) H' locs (cells + 1) (slots + zx_sz1 (.inr (ci, zx_def ci))) → W p l e R s m args below meth c H' locs (cells + 1) (slots + zx_sz1 (.inr (ci, zx_def ci))) Q (F0 m (pc + 3) ls (.ref (a h.length) :: rest))) : W p l e R s m args below meth c H locs cells slots Q (F0 m pc ls rest) := by
  obtain ⟨hx, hb, hml, hown, hon, hts, hnw, hK, hini, ha, hab, hbB, hBs, hX, hK2, hH2⟩ := C
  obtain ⟨C0, hw, hC, -⟩ := zx_pool_ok hon hp
  have hr : ∃ r, zt_cl[ci]? = some r := by
    have h9 : ci < zt_cl.length := Nat.lt_of_lt_of_le hci (by decide)
    exact ⟨_, List.getElem?_eq_getElem h9⟩
  obtain ⟨r, hr⟩ := hr
  have hok := zt_cl_ok hr
  obtain ⟨hf1, hf2⟩ := zt_fty_len ci hci
  rw [hr] at hf1 hf2
  simp only [Option.map_some, Option.getD_some] at hf1 hf2
  have hC' : r.1 = C0 := by
    rcases hC with h9 | h9
    · subst h9
      exact absurd hci (by decide)
    · rw [hr] at h9
      exact Option.some.inj h9
  subst hC'
  have hz : zx_sz1 (.inr (ci, zx_def ci)) = r.2.2 := hf2
  rw [hz] at hs1 k
  rw [ha _ hlim] at k
  refine va_new (C := r.1) (T := r.2.1) (N := r.2.2) (fs := (zx_def ci).map (zx_v a)) hx hb hts (zx_uws hr) (fun k => (zt_fty.getD ci []).getD k .int) hok.2.1 hown (hts _ hw) (hts _ (hok.2.2.2.1 hci)) (hts _ hok.2.2.2.2.1) hK hS.1 zx_w_D hS.2.1 (fun q hq => Nat.le_trans hBs hq) hr (zx_def_ok hr hf1 a) hc1 hs1 hd (fun q H1 hP hD hV => ?_)
  intro T hT X
  have hq := zx_push_q hS hP hD hT X
  subst hq
  exact k H1 (zx_S_push (e1 := .inr (ci, zx_def ci)) hS hz hlim hP hV) T hT X
theorem zx_RA_fc {U : State} {cA : ClassId} {ty : FieldType} (h : va_RA U cA ty) : U.vm.findClass ("[" ++ ty.toString) = some cA := by
  cases ty with
  | object C => obtain ⟨_, _, _, _, _, h4⟩ := h; exact h4
  | _ => exact h
theorem zx_arr_len {ty : FieldType} {n : Nat} {a0 : vp_A} (h : zx_arr ty n = some a0) : a0.1 = n := by
  cases ty <;> (cases h <;> rfl)
theorem zx_newa_ok (C : zx_Cx D dA B a b sc oc own ini cc nL p s m args meth c) (hS : zx_S D dA B a n0 z0 s h H locs cells slots) {ty : ArrayType} {t : Nat} {a0 : vp_A} {n : Int32} {rest : List Value} (hd : decode cc pc = .ok (.newarray ty, 2)) (ht : zx_at (newarray.typeOf ty) = some t) (ha0 : zx_arr (newarray.typeOf ty) n.toNatClampNeg = some a0) (hn : ¬ n < 0) (hby : n.toNatClampNeg * componentBytes (newarray.typeOf ty) ≤ 536870912) (hlim : h.length < zx_lim) (hc1 : cells + 1 ≤ R.cells) (hs1 : slots + n.toNatClampNeg ≤ R.slots)
    (k : ∀ H', zx_S D dA B a n0 z0 s (h ++ [.inl (t, a0)]) H' locs (cells + 1) (slots + n.toNatClampNeg) → W p l e R s m args below meth c H' locs (cells + 1) (slots + n.toNatClampNeg) Q (F0 m (pc + 2) ls (.ref (a h.length) :: rest))) : W p l e R s m args below meth c H locs cells slots Q (F0 m pc ls (.int n :: rest)) := by
  obtain ⟨hx, hb, hml, hown, hon, hts, hnw, hK, hini, ha, hab, hbB, hBs, hX, hK2, hH2⟩ := C
  have hta := zx_at_ok ht
  have harr : Cond.arrayClass (newarray.typeOf ty) ∈ zt_good := by
    rcases zt_at_ok _ _ hta with h9 | ⟨C9, h9, -⟩
    · exact h9.2
    · cases ty <;> cases h9
  rw [ha _ hlim] at k
  have hcell : (∀ cA : ClassId, vp_cell cA a0 = arrV cA n.toNatClampNeg (fun _ => defaultValue (newarray.typeOf ty))) ∧ zx_sz1 (.inl (t, a0)) = n.toNatClampNeg ∧ (∀ cA, zx_e (fun _ => cA) a (.inl (t, a0)) = .inl (cA, a0)) ∧ zx_e dA a (.inl (t, a0)) = .inl (dA t, a0) := by
    cases ty <;> (cases ha0; exact ⟨fun _ => rfl, rfl, fun _ => rfl, rfl⟩)
  refine va_newa (a0 := a0) hx hb (hts _ harr) rfl hK hS.1 zx_w_D hS.2.1 (fun q hq => Nat.le_trans hBs hq) hcell.1 hn rfl hby hc1 hs1 hd (fun q cA H1 hK1 hP hD hV => ?_)
  have e1 := zx_RA_fc (hK1.2 (zx_tys dA).length (cA, newarray.typeOf ty) List.getElem?_concat_length).2
  have e2 := zx_RA_fc (hK.2 t _ (zx_tys_get hta)).2
  have e3 : cA = dA t := Option.some.inj (e1.symm.trans e2)
  subst e3
  intro T hT X
  have hq := zx_push_q hS hP hD hT X
  subst hq
  rw [← hcell.2.2.2] at hP
  exact k H1 (zx_S_push (e1 := .inl (t, a0)) hS hcell.2.1 hlim hP hV) T hT X
theorem zx_newq_ok (C : zx_Cx D dA B a b sc oc own ini cc nL p s m args meth c) (hS : zx_S D dA B a n0 z0 s h H locs cells slots) {i x t hh : Nat} {C1 : String} {n : Int32} {rest : List Value} (hd : decode cc pc = .ok (.anewarray i, 3)) (hp : zx_pool oc i = some (2, x, t, hh)) (ht : zt_at[t]? = some (.object C1)) (hn : ¬ n < 0) (hby : n.toNatClampNeg * 4 ≤ 536870912) (hlim : h.length < zx_lim) (hc1 : cells + 1 ≤ R.cells) (hs1 : slots + n.toNatClampNeg ≤ R.slots)
    (k : ∀ H', zx_S D dA B a n0 z0 s (h ++ [.inl (t, n.toNatClampNeg, .inr (.inr (.inr (.inr (fun _ => none)))))]) H' locs (cells + 1) (slots + n.toNatClampNeg) → W p l e R s m args below meth c H' locs (cells + 1) (slots + n.toNatClampNeg) Q (F0 m (pc + 3) ls (.ref (a h.length) :: rest))) : W p l e R s m args below meth c H locs cells slots Q (F0 m pc ls (.int n :: rest)) := by
  obtain ⟨hx, hb, hml, hown, hon, hts, hnw, hK, hini, ha, hab, hbB, hBs, hX, hK2, hH2⟩ := C
  obtain ⟨C0, hw, -, hC⟩ := zx_pool_ok hon hp
  have hC' : C1 = C0 := by
    rcases hC with h9 | h9
    · subst h9
      cases ht
    · rw [ht] at h9
      cases h9
      rfl
  subst hC'
  have hov : va_AO C1 s := by
    rcases zt_at_ok _ _ ht with h9 | ⟨C9, h9, h10⟩
    · exact absurd rfl (h9.1 C1)
    · cases h9
      exact hK2.1 _ h10
  rw [ha _ hlim] at k
  refine va_newq hx hb hown (hts _ hw) hov hK hS.1 zx_w_D hS.2.1 (fun q hq => Nat.le_trans hBs hq) hn rfl hby hc1 hs1 hd (fun q cA H1 hK1 hP hD hV => ?_)
  have e1 := zx_RA_fc (hK1.2 (zx_tys dA).length (cA, .object C1) List.getElem?_concat_length).2
  have e2 := zx_RA_fc (hK.2 t _ (zx_tys_get ht)).2
  have e3 : cA = dA t := Option.some.inj (e1.symm.trans e2)
  subst e3
  intro T hT X
  have hq := zx_push_q hS hP hD hT X
  subst hq
  exact k H1 (zx_S_push (e1 := .inl (t, n.toNatClampNeg, .inr (.inr (.inr (.inr (fun _ => none)))))) hS rfl hlim hP hV) T hT X
theorem zx_iald_ok (C : zx_Cx D dA B a b sc oc own ini cc nL p s m args meth c) (hS : zx_S D dA B a n0 z0 s h H locs cells slots) {q t n : Nat} {f : Nat → Int32} {i : Int32} {rest : List Value} (hd : decode cc pc = .ok (.iaload, 1)) (hq : h[q]? = some (.inl (t, n, .inl f))) (ht : zt_at[t]? = some .int) (hin : zx_in i n) (k : W p l e R s m args below meth c H locs cells slots Q (F0 m (pc + 1) ls (.int (f i.toNatClampNeg) :: rest))) : W p l e R s m args below meth c H locs cells slots Q (F0 m pc ls (.int i :: .ref (a q) :: rest)) := by
  obtain ⟨hx, hb, hml, hown, hon, hts, hnw, hK, hini, ha, hab, hbB, hBs, hX, hK2, hH2⟩ := C
  rw [zx_S_q hS ha hq]
  exact va_iald hx hb hK hS.1 q t (zx_w_get hq) (zx_tys_get ht) hin hd k
theorem zx_lald_ok (C : zx_Cx D dA B a b sc oc own ini cc nL p s m args meth c) (hS : zx_S D dA B a n0 z0 s h H locs cells slots) {q t n : Nat} {f : Nat → Int64} {i : Int32} {rest : List Value} (hd : decode cc pc = .ok (.laload, 1)) (hq : h[q]? = some (.inl (t, n, .inr (.inl f)))) (ht : zt_at[t]? = some .long) (hin : zx_in i n) (k : W p l e R s m args below meth c H locs cells slots Q (F0 m (pc + 1) ls (.long (f i.toNatClampNeg) :: rest))) : W p l e R s m args below meth c H locs cells slots Q (F0 m pc ls (.int i :: .ref (a q) :: rest)) := by
  obtain ⟨hx, hb, hml, hown, hon, hts, hnw, hK, hini, ha, hab, hbB, hBs, hX, hK2, hH2⟩ := C
  rw [zx_S_q hS ha hq]
  exact va_lald hx hb hK hS.1 q t (zx_w_get hq) (zx_tys_get ht) hin hd k
theorem zx_dald_ok (C : zx_Cx D dA B a b sc oc own ini cc nL p s m args meth c) (hS : zx_S D dA B a n0 z0 s h H locs cells slots) {q t n : Nat} {f : Nat → UInt64} {i : Int32} {rest : List Value} (hd : decode cc pc = .ok (.daload, 1)) (hq : h[q]? = some (.inl (t, n, .inr (.inr (.inr (.inl f)))))) (ht : zt_at[t]? = some .double) (hin : zx_in i n) (k : W p l e R s m args below meth c H locs cells slots Q (F0 m (pc + 1) ls (.double (f i.toNatClampNeg) :: rest))) : W p l e R s m args below meth c H locs cells slots Q (F0 m pc ls (.int i :: .ref (a q) :: rest)) := by
  obtain ⟨hx, hb, hml, hown, hon, hts, hnw, hK, hini, ha, hab, hbB, hBs, hX, hK2, hH2⟩ := C
  rw [zx_S_q hS ha hq]
  exact va_dald hx hb hK hS.1 q t (zx_w_get hq) (zx_tys_get ht) hin hd k
theorem zx_zald_ok (C : zx_Cx D dA B a b sc oc own ini cc nL p s m args meth c) (hS : zx_S D dA B a n0 z0 s h H locs cells slots) {q t n : Nat} {f : Nat → Int32} {i : Int32} {rest : List Value} (hd : decode cc pc = .ok (.baload, 1)) (hq : h[q]? = some (.inl (t, n, .inl f))) (ht : zt_at[t]? = some .boolean) (hin : zx_in i n) (k : W p l e R s m args below meth c H locs cells slots Q (F0 m (pc + 1) ls (.int (f i.toNatClampNeg) :: rest))) : W p l e R s m args below meth c H locs cells slots Q (F0 m pc ls (.int i :: .ref (a q) :: rest)) := by
  obtain ⟨hx, hb, hml, hown, hon, hts, hnw, hK, hini, ha, hab, hbB, hBs, hX, hK2, hH2⟩ := C
  rw [zx_S_q hS ha hq]
  exact va_zald hx hb hK hS.1 q t (zx_w_get hq) (zx_tys_get ht) hin hd k
theorem zx_bald_ok (C : zx_Cx D dA B a b sc oc own ini cc nL p s m args meth c) (hS : zx_S D dA B a n0 z0 s h H locs cells slots) {q t n : Nat} {f : Nat → Int32} {i : Int32} {rest : List Value} (hd : decode cc pc = .ok (.baload, 1)) (hq : h[q]? = some (.inl (t, n, .inl f))) (ht : zt_at[t]? = some .byte) (hin : zx_in i n) (k : W p l e R s m args below meth c H locs cells slots Q (F0 m (pc + 1) ls (.int (f i.toNatClampNeg) :: rest))) : W p l e R s m args below meth c H locs cells slots Q (F0 m pc ls (.int i :: .ref (a q) :: rest)) := by
  obtain ⟨hx, hb, hml, hown, hon, hts, hnw, hK, hini, ha, hab, hbB, hBs, hX, hK2, hH2⟩ := C
  rw [zx_S_q hS ha hq]
  exact va_bald hx hb hK hS.1 q t (zx_w_get hq) (zx_tys_get ht) hin hd k
theorem zx_rf_v (a : Nat → Nat) (r : Option Nat) : zx_v a (zx_rf r) = va_rf (r.map a) := by cases r <;> rfl
theorem zx_aald_ok (C : zx_Cx D dA B a b sc oc own ini cc nL p s m args meth c) (hS : zx_S D dA B a n0 z0 s h H locs cells slots) {q t n : Nat} {C1 : String} {f : Nat → Option Nat} {i : Int32} {rest : List Value} (hd : decode cc pc = .ok (.aaload, 1)) (hq : h[q]? = some (.inl (t, n, .inr (.inr (.inr (.inr f)))))) (ht : zt_at[t]? = some (.object C1)) (hin : zx_in i n) (k : W p l e R s m args below meth c H locs cells slots Q (F0 m (pc + 1) ls (zx_v a (zx_rf (f i.toNatClampNeg)) :: rest))) : W p l e R s m args below meth c H locs cells slots Q (F0 m pc ls (.int i :: .ref (a q) :: rest)) := by
  obtain ⟨hx, hb, hml, hown, hon, hts, hnw, hK, hini, ha, hab, hbB, hBs, hX, hK2, hH2⟩ := C
  rw [zx_S_q hS ha hq]
  rw [zx_rf_v] at k
  exact va_aldq hx hb hK hS.1 q t (zx_w_get hq) (zx_tys_get ht) hin hd k
theorem zx_alen_ok (C : zx_Cx D dA B a b sc oc own ini cc nL p s m args meth c) (hS : zx_S D dA B a n0 z0 s h H locs cells slots) {q t n : Nat} {x : (Nat → Int32) ⊕ (Nat → Int64) ⊕ (Nat → UInt32) ⊕ (Nat → UInt64) ⊕ (Nat → Option Nat)} {ty : FieldType} {rest : List Value} (hd : decode cc pc = .ok (.arraylength, 1)) (hq : h[q]? = some (.inl (t, n, x))) (ht : zt_at[t]? = some ty) (k : W p l e R s m args below meth c H locs cells slots Q (F0 m (pc + 1) ls (.int (Int32.ofNat n) :: rest))) : W p l e R s m args below meth c H locs cells slots Q (F0 m pc ls (.ref (a q) :: rest)) := by
  obtain ⟨hx, hb, hml, hown, hon, hts, hnw, hK, hini, ha, hab, hbB, hBs, hX, hK2, hH2⟩ := C
  rw [zx_S_q hS ha hq]
  have hg := zx_w_get (dA := dA) (B := B) (a := a) hq
  rcases x with x | x | x | x | x <;> exact va_alen hx hb hK hS.1 q t hg (zx_tys_get ht) rfl hd k
theorem zx_sld_ok (C : zx_Cx D dA B a b sc oc own ini cc nL p s m args meth c) (hS : zx_S D dA B a n0 z0 s h H locs cells slots) {i : Int32} {rest : List Value} (hd : decode cc pc = .ok (.iaload, 1)) (hin : zx_in i sc.1.1) (k : W p l e R s m args below meth c H locs cells slots Q (F0 m (pc + 1) ls (.int (sc.1.2 i.toNatClampNeg) :: rest))) : W p l e R s m args below meth c H locs cells slots Q (F0 m pc ls (.int i :: .ref (a zx_lim) :: rest)) := by
  obtain ⟨hx, hb, hml, hown, hon, hts, hnw, hK, hini, ha, hab, hbB, hBs, hX, hK2, hH2⟩ := C
  rw [hab]
  exact va_sld hx hb hX (Nat.lt_of_lt_of_le hbB hBs) (A := fun q => B ≤ q) (by show ¬ B ≤ b; omega) hS.2.1 hin hd k
theorem zx_slen_ok (C : zx_Cx D dA B a b sc oc own ini cc nL p s m args meth c) (hS : zx_S D dA B a n0 z0 s h H locs cells slots) {rest : List Value} (hd : decode cc pc = .ok (.arraylength, 1)) (k : W p l e R s m args below meth c H locs cells slots Q (F0 m (pc + 1) ls (.int (Int32.ofNat sc.1.1) :: rest))) : W p l e R s m args below meth c H locs cells slots Q (F0 m pc ls (.ref (a zx_lim) :: rest)) := by
  obtain ⟨hx, hb, hml, hown, hon, hts, hnw, hK, hini, ha, hab, hbB, hBs, hX, hK2, hH2⟩ := C
  rw [hab]
  exact va_slen hx hb hX (Nat.lt_of_lt_of_le hbB hBs) (A := fun q => B ≤ q) (by show ¬ B ≤ b; omega) hS.2.1 hd k
theorem zx_iast_ok (C : zx_Cx D dA B a b sc oc own ini cc nL p s m args meth c) (hS : zx_S D dA B a n0 z0 s h H locs cells slots) {q t n : Nat} {f : Nat → Int32} {i : Int32} {x : Int32} {rest : List Value} (hd : decode cc pc = .ok (.iastore, 1)) (hq : h[q]? = some (.inl (t, n, .inl f))) (ht : zt_at[t]? = some .int) (hin : zx_in i n) (k : ∀ H' locs', zx_S D dA B a n0 z0 s (h.set q (.inl (t, n, .inl (upd f i.toNatClampNeg x)))) H' locs' cells slots → W p l e R s m args below meth c H' locs' cells slots Q (F0 m (pc + 1) ls rest)) : W p l e R s m args below meth c H locs cells slots Q (F0 m pc ls (.int x :: .int i :: .ref (a q) :: rest)) := by
  obtain ⟨hx, hb, hml, hown, hon, hts, hnw, hK, hini, ha, hab, hbB, hBs, hX, hK2, hH2⟩ := C
  rw [zx_S_q hS ha hq]
  exact va_iast hx hb hK hS.1 zx_w_D hS.2.1 q t (zx_w_get hq) (zx_tys_get ht) hin hd (fun H1 locs1 hP _ hV => k H1 locs1 (zx_S_set (e1 := .inl (t, n, .inl (upd f i.toNatClampNeg x))) hS hq rfl hP hV))
theorem zx_last_ok (C : zx_Cx D dA B a b sc oc own ini cc nL p s m args meth c) (hS : zx_S D dA B a n0 z0 s h H locs cells slots) {q t n : Nat} {f : Nat → Int64} {i : Int32} {x : Int64} {rest : List Value} (hd : decode cc pc = .ok (.lastore, 1)) (hq : h[q]? = some (.inl (t, n, .inr (.inl f)))) (ht : zt_at[t]? = some .long) (hin : zx_in i n) (k : ∀ H' locs', zx_S D dA B a n0 z0 s (h.set q (.inl (t, n, .inr (.inl (vp_updL f i.toNatClampNeg x))))) H' locs' cells slots → W p l e R s m args below meth c H' locs' cells slots Q (F0 m (pc + 1) ls rest)) : W p l e R s m args below meth c H locs cells slots Q (F0 m pc ls (.long x :: .int i :: .ref (a q) :: rest)) := by
  obtain ⟨hx, hb, hml, hown, hon, hts, hnw, hK, hini, ha, hab, hbB, hBs, hX, hK2, hH2⟩ := C
  rw [zx_S_q hS ha hq]
  exact va_last hx hb hK hS.1 zx_w_D hS.2.1 q t (zx_w_get hq) (zx_tys_get ht) hin hd (fun H1 locs1 hP _ hV => k H1 locs1 (zx_S_set (e1 := .inl (t, n, .inr (.inl (vp_updL f i.toNatClampNeg x)))) hS hq rfl hP hV))
theorem zx_dast_ok (C : zx_Cx D dA B a b sc oc own ini cc nL p s m args meth c) (hS : zx_S D dA B a n0 z0 s h H locs cells slots) {q t n : Nat} {f : Nat → UInt64} {i : Int32} {x : UInt64} {rest : List Value} (hd : decode cc pc = .ok (.dastore, 1)) (hq : h[q]? = some (.inl (t, n, .inr (.inr (.inr (.inl f)))))) (ht : zt_at[t]? = some .double) (hin : zx_in i n) (k : ∀ H' locs', zx_S D dA B a n0 z0 s (h.set q (.inl (t, n, .inr (.inr (.inr (.inl (vf_upd f i.toNatClampNeg x))))))) H' locs' cells slots → W p l e R s m args below meth c H' locs' cells slots Q (F0 m (pc + 1) ls rest)) : W p l e R s m args below meth c H locs cells slots Q (F0 m pc ls (.double x :: .int i :: .ref (a q) :: rest)) := by
  obtain ⟨hx, hb, hml, hown, hon, hts, hnw, hK, hini, ha, hab, hbB, hBs, hX, hK2, hH2⟩ := C
  rw [zx_S_q hS ha hq]
  exact va_dast hx hb hK hS.1 zx_w_D hS.2.1 q t (zx_w_get hq) (zx_tys_get ht) hin hd (fun H1 locs1 hP _ hV => k H1 locs1 (zx_S_set (e1 := .inl (t, n, .inr (.inr (.inr (.inl (vf_upd f i.toNatClampNeg x)))))) hS hq rfl hP hV))
theorem zx_up_map (a : Nat → Nat) (f : Nat → Option Nat) (i : Nat) (r : Option Nat) : (fun j => (va_up f i r j).map a) = va_up (fun j => (f j).map a) i (r.map a) := by
  funext j
  unfold va_up
  split <;> rfl
theorem zx_aastN_ok (C : zx_Cx D dA B a b sc oc own ini cc nL p s m args meth c) (hS : zx_S D dA B a n0 z0 s h H locs cells slots) {q t n : Nat} {C1 : String} {f : Nat → Option Nat} {i : Int32} {rest : List Value} (hd : decode cc pc = .ok (.aastore, 1)) (hq : h[q]? = some (.inl (t, n, .inr (.inr (.inr (.inr f)))))) (ht : zt_at[t]? = some (.object C1)) (hin : zx_in i n) (k : ∀ H' locs', zx_S D dA B a n0 z0 s (h.set q (.inl (t, n, .inr (.inr (.inr (.inr (va_up f i.toNatClampNeg none))))))) H' locs' cells slots → W p l e R s m args below meth c H' locs' cells slots Q (F0 m (pc + 1) ls rest)) : W p l e R s m args below meth c H locs cells slots Q (F0 m pc ls (.null :: .int i :: .ref (a q) :: rest)) := by
  obtain ⟨hx, hb, hml, hown, hon, hts, hnw, hK, hini, ha, hab, hbB, hBs, hX, hK2, hH2⟩ := C
  rw [zx_S_q hS ha hq]
  refine va_astqN hx hb hK hS.1 zx_w_D hS.2.1 q t (zx_w_get hq) (zx_tys_get ht) hin hd (fun H1 locs1 hP _ hV => k H1 locs1 (zx_S_set (e1 := .inl (t, n, .inr (.inr (.inr (.inr (va_up f i.toNatClampNeg none)))))) hS hq rfl ?_ hV))
  have e9 := zx_up_map a f i.toNatClampNeg none
  simp only [zx_e, e9]
  exact hP
theorem zx_aast_ok (C : zx_Cx D dA B a b sc oc own ini cc nL p s m args meth c) (hS : zx_S D dA B a n0 z0 s h H locs cells slots) {q t n cj v : Nat} {vs : List Value} {C1 : String} {f : Nat → Option Nat} {i : Int32} {rest : List Value} (hd : decode cc pc = .ok (.aastore, 1)) (hq : h[q]? = some (.inl (t, n, .inr (.inr (.inr (.inr f)))))) (ht : zt_at[t]? = some (.object C1)) (hc : zt_atc[t]? = some cj) (hc9 : cj ≠ 999) (hv : h[v]? = some (.inr (cj, vs))) (hin : zx_in i n) (k : ∀ H' locs', zx_S D dA B a n0 z0 s (h.set q (.inl (t, n, .inr (.inr (.inr (.inr (va_up f i.toNatClampNeg (some v)))))))) H' locs' cells slots → W p l e R s m args below meth c H' locs' cells slots Q (F0 m (pc + 1) ls rest)) : W p l e R s m args below meth c H locs cells slots Q (F0 m pc ls (.ref (a v) :: .int i :: .ref (a q) :: rest)) := by
  obtain ⟨hx, hb, hml, hown, hon, hts, hnw, hK, hini, ha, hab, hbB, hBs, hX, hK2, hH2⟩ := C
  rw [zx_S_q hS ha hq]
  have hr := zt_atc_ok t cj C1 ht hc hc9
  simp only [Option.map_eq_some_iff] at hr
  obtain ⟨r, hr, rfl⟩ := hr
  have hg := zx_w_get (dA := dA) (B := B) (a := a) hv
  rw [← zx_S_q hS ha hv] at hg
  refine va_astq hx hb hK hS.1 zx_w_D hS.2.1 q t v cj (r := r) (zx_w_get hq) (zx_tys_get ht) hg hr hin hd (fun H1 locs1 hP _ hV => k H1 locs1 (zx_S_set (e1 := .inl (t, n, .inr (.inr (.inr (.inr (va_up f i.toNatClampNeg (some v))))))) hS hq rfl ?_ hV))
  have e9 := zx_up_map a f i.toNatClampNeg (some v)
  simp only [zx_e, e9]
  exact hP
end ZXI
end
section
/-! ===== throws: the words of each constructor that is called for one (written by wip/zx/gen_tables.py) ===== -/
def zt_exw : List (Nat × Nat × Nat) := [(15, 157, 19), (15, 61, 20), (15, 74, 21)]
set_option maxRecDepth 100000 in
theorem zt_ex0 : ∀ w ∈ vx_atS "ColumnVault" 157 "java/lang/IndexOutOfBoundsException" ["java/lang/RuntimeException", "java/lang/Exception"], (w ∈ lw_tbl ∧ (goodWord w = true ∨ zx_nwk w = true)) ∧ vx_ot w = true := by decide +kernel
set_option maxRecDepth 100000 in
theorem zt_ex1 : ∀ w ∈ vx_atS "ColumnVault" 61 "java/lang/IllegalArgumentException" ["java/lang/RuntimeException", "java/lang/Exception"], (w ∈ lw_tbl ∧ (goodWord w = true ∨ zx_nwk w = true)) ∧ vx_ot w = true := by decide +kernel
set_option maxRecDepth 100000 in
theorem zt_ex2 : ∀ w ∈ vx_atS "ColumnVault" 74 "java/lang/IllegalStateException" ["java/lang/RuntimeException", "java/lang/Exception"], (w ∈ lw_tbl ∧ (goodWord w = true ∨ zx_nwk w = true)) ∧ vx_ot w = true := by decide +kernel
theorem zt_exw_ok {oc ic ci : Nat} {own : String} {r : vw_C} (ho : zt_on[oc]? = some own) (hr : zt_cl[ci]? = some r) (h : (oc, ic, ci) ∈ zt_exw) : (∀ w ∈ vx_atS own ic r.1 ["java/lang/RuntimeException", "java/lang/Exception"], (w ∈ lw_tbl ∧ (goodWord w = true ∨ zx_nwk w = true)) ∧ vx_ot w = true) ∧ Bundle.fit r.1 = true ∧ vx_ot (.initialized r.1) = true ∧ (∀ ik, vx_ot (.classLink own ik r.1) = true) := by
  simp only [zt_exw, List.mem_cons, Prod.mk.injEq, List.not_mem_nil, or_false] at h
  rcases h with ⟨rfl, rfl, rfl⟩ | ⟨rfl, rfl, rfl⟩ | ⟨rfl, rfl, rfl⟩
  · cases ho; cases hr; exact ⟨zt_ex0, by decide +kernel, rfl, fun _ => rfl⟩
  · cases ho; cases hr; exact ⟨zt_ex1, by decide +kernel, rfl, fun _ => rfl⟩
  · cases ho; cases hr; exact ⟨zt_ex2, by decide +kernel, rfl, fun _ => rfl⟩
end
section
/-! ===== one step with the heap is the kit's row ===== -/
section ZXJ
variable {p : Program} {l : Launch} {e : Env} {R : Room} {s : State} {m : MethodId} {args : Array Value} {below : List Frame} {meth : Method} {c : Code} {H : Heap} {locs : List Loc} {cells slots : Nat} {Q : State → Prop} {cc : ByteArray} {pc nL : Nat} {ls : Array Slot} {lv : List (Nat × Value)} {st : List Value} {a : Nat → Nat}
variable {D : va_G} {dA : Nat → ClassId} {B b n0 z0 oc : Nat} {own : String} {ini : Bool} {sc : (Nat × (Nat → Int32)) × Bool} {h : zx_H}
theorem zx_or_ok (ha : ∀ k, k < zx_lim → a k = B + k) {x y : Value} {u w : Option Nat} (hx : zx_or x = some u) (hy : zx_or y = some w) : zx_v a x = va_rf (u.map a) ∧ zx_v a y = va_rf (w.map a) ∧ (u.map a = w.map a ↔ u = w) := by
  unfold zx_or at hx hy
  split at hx
  · cases hx
    split at hy
    · cases hy; exact ⟨rfl, rfl, by simp⟩
    · split at hy
      · cases hy; exact ⟨rfl, rfl, by simp⟩
      · cases hy
    · cases hy
  · next k =>
    split at hx
    · next hk =>
      cases hx
      split at hy
      · cases hy; exact ⟨rfl, rfl, by simp⟩
      · next j =>
        split at hy
        · next hj =>
          cases hy
          refine ⟨rfl, rfl, ?_⟩
          simp only [Option.map_some, Option.some.injEq, ha k hk, ha j hj]
          omega
        · cases hy
      · cases hy
    · cases hx
  · cases hx
theorem zt_obj_words : Cond.instanceMethod objectInit ∈ zt_good ∧ Cond.code objectInit ⟨#[0xb1]⟩ 1 none ∈ zt_good := zt_obj
set_option maxHeartbeats 4000000 in
theorem zx_h_ok (C : zx_Cx D dA B a b sc oc own ini cc nL p s m args meth c) (hS : zx_S D dA B a n0 z0 s h H locs cells slots) {ins : Instr} {n : Nat} {f : zx_F} {h' : zx_H} (hd : decode cc pc = .ok (ins, n)) (hl : lv_has ls nL (zx_l a lv)) (h1 : zx_h oc ini sc pc lv st h ins n = some (f, h'))
    (hc1 : n0 + R.cells ≥ h'.length) (hs1 : z0 + R.slots ≥ zx_sz h') (hRf : 1 ≤ R.frames) (hRl : 20 ≤ R.locals) (hk : zx_KH D dA B n0 z0 p l e R s m args below meth c Q nL a (f, h')) : W p l e R s m args below meth c H locs cells slots Q (F0 m pc ls (zx_st a st)) := by
  have C0 := C
  obtain ⟨hx, hb, hml, hown, hon, hts, hnw, hK, hini, ha, hab, hbB, hBs, hX, hK2, hH2⟩ := C0
  have hn0 := hS.2.2.1
  have hz0 := hS.2.2.2.2.1
  unfold zx_h at h1
  split at h1
  · -- getfield
    split at h1
    · simp only [Option.map_eq_some_iff, Prod.mk.injEq] at h1
      obtain ⟨v, hv, rfl, rfl⟩ := h1
      exact zx_get_ok C hS hd hv (hk _ _ _ _ hS ls hl)
    · cases h1
  · -- putfield
    split at h1
    · simp only [Option.map_eq_some_iff, Prod.mk.injEq] at h1
      obtain ⟨v, hv, rfl, rfl⟩ := h1
      exact zx_put_ok C hS hd hv (fun H' locs' hS' => hk _ _ _ _ hS' ls hl)
    · cases h1
  · -- new
    split at h1
    · next kd ci y hh hp =>
      split at h1
      · next hcond =>
        obtain ⟨rfl, hci, hlim⟩ := hcond
        cases h1
        rw [List.length_append] at hc1
        have hz : zx_sz (h ++ [.inr (ci, zx_def ci)]) = zx_sz h + zx_sz1 (.inr (ci, zx_def ci)) := by simp [zx_sz]
        exact zx_new_ok C hS hd hp hci hlim (by simp at hc1; omega) (by omega) (fun H' hS' => hk _ _ _ _ hS' ls hl)
      · cases h1
    · cases h1
  · -- newarray
    split at h1
    · split at h1
      · next t a0 ht ha0 =>
        split at h1
        · next hcond =>
          obtain ⟨hn, hby, hlim⟩ := hcond
          cases h1
          rw [List.length_append] at hc1
          have hz1 := zx_arr_len ha0
          have hz : zx_sz (h ++ [.inl (t, a0)]) = zx_sz h + a0.1 := by simp [zx_sz, zx_sz1]
          exact zx_newa_ok C hS hd ht ha0 hn hby hlim (by simp at hc1; omega) (by omega) (fun H' hS' => hk _ _ _ _ hS' ls hl)
        · cases h1
      · cases h1
    · cases h1
  · -- anewarray
    split at h1
    · split at h1
      · next kd x t hh hp =>
        split at h1
        · next C1 ht =>
          split at h1
          · next hcond =>
            obtain ⟨rfl, hn, hby, hlim⟩ := hcond
            cases h1
            rw [List.length_append] at hc1
            have hz := fun (i : Int32) => show zx_sz (h ++ [.inl (t, i.toNatClampNeg, .inr (.inr (.inr (.inr (fun _ => none)))))]) = zx_sz h + i.toNatClampNeg by simp [zx_sz, zx_sz1]
            rw [hz] at hs1
            exact zx_newq_ok C hS hd hp ht hn hby hlim (by simp at hc1; omega) (by omega) (fun H' hS' => hk _ _ _ _ hS' ls hl)
          · cases h1
        · cases h1
      · cases h1
    · cases h1
  · -- arraylength
    split at h1
    · split at h1
      · next hq => cases h1; subst hq; exact zx_slen_ok C hS hd (hk _ _ _ _ hS ls hl)
      · split at h1
        · next hq =>
          split at h1
          · next hty =>
            cases h1
            obtain ⟨ty, hty⟩ := Option.isSome_iff_exists.mp hty
            exact zx_alen_ok C hS hd hq hty (hk _ _ _ _ hS ls hl)
          · cases h1
        · cases h1
    · cases h1
  · -- iaload
    split at h1
    · split at h1
      · next hq =>
        split at h1
        · next hin => cases h1; subst hq; exact zx_sld_ok C hS hd hin (hk _ _ _ _ hS ls hl)
        · cases h1
      · split at h1
        · next hq =>
          split at h1
          · next hc => cases h1; exact zx_iald_ok C hS hd hq hc.1 hc.2 (hk _ _ _ _ hS ls hl)
          · cases h1
        · cases h1
    · cases h1
  · -- laload
    split at h1
    · split at h1
      · next hq =>
        split at h1
        · next hc => cases h1; exact zx_lald_ok C hS hd hq hc.1 hc.2 (hk _ _ _ _ hS ls hl)
        · cases h1
      · cases h1
    · cases h1
  · -- daload
    split at h1
    · split at h1
      · next hq =>
        split at h1
        · next hc => cases h1; exact zx_dald_ok C hS hd hq hc.1 hc.2 (hk _ _ _ _ hS ls hl)
        · cases h1
      · cases h1
    · cases h1
  · -- baload
    split at h1
    · split at h1
      · next hq =>
        split at h1
        · next hc =>
          cases h1
          rcases hc.1 with h9 | h9
          · exact zx_zald_ok C hS hd hq h9 hc.2 (hk _ _ _ _ hS ls hl)
          · exact zx_bald_ok C hS hd hq h9 hc.2 (hk _ _ _ _ hS ls hl)
        · cases h1
      · cases h1
    · cases h1
  · -- aaload
    split at h1
    · split at h1
      · next hq =>
        split at h1
        · next ht =>
          split at h1
          · next hc => cases h1; exact zx_aald_ok C hS hd hq ht hc (hk _ _ _ _ hS ls hl)
          · cases h1
        · cases h1
      · cases h1
    · cases h1
  · -- iastore
    split at h1
    · split at h1
      · next hq =>
        split at h1
        · next hc => cases h1; exact zx_iast_ok C hS hd hq hc.1 hc.2 (fun H' locs' hS' => hk _ _ _ _ hS' ls hl)
        · cases h1
      · cases h1
    · cases h1
  · -- lastore
    split at h1
    · split at h1
      · next hq =>
        split at h1
        · next hc => cases h1; exact zx_last_ok C hS hd hq hc.1 hc.2 (fun H' locs' hS' => hk _ _ _ _ hS' ls hl)
        · cases h1
      · cases h1
    · cases h1
  · -- aastore
    split at h1
    · split at h1
      · next hq =>
        split at h1
        · next ht =>
          split at h1
          · next hc => cases h1; exact zx_aastN_ok C hS hd hq ht hc (fun H' locs' hS' => hk _ _ _ _ hS' ls hl)
          · cases h1
        · cases h1
      · cases h1
    · split at h1
      · next hq =>
        split at h1
        · next ht hcj hv =>
          split at h1
          · next hc =>
            obtain ⟨rfl, h9, hin⟩ := hc
            cases h1
            exact zx_aast_ok C hS hd hq ht hcj h9 hv hin (fun H' locs' hS' => hk _ _ _ _ hS' ls hl)
          · cases h1
        · cases h1
      · cases h1
    · cases h1
  · -- if_acmp
    split at h1
    · split at h1
      · next hu hw =>
        obtain ⟨e1, e2, e3⟩ := zx_or_ok ha hu hw
        simp only [zx_st, List.map_cons]
        rw [e1, e2]
        split at h1
        · simp only [Option.map_eq_some_iff, Prod.mk.injEq] at h1
          obtain ⟨f0, hf0, rfl, rfl⟩ := h1
          obtain ⟨t, ht, rfl⟩ := zx_br_get hf0
          refine lv_acmp_eq hx hb hd ht (fun hc => ?_) (fun hc => ?_)
          · have h2 := hk _ _ _ _ hS ls
            simp only [e3.mp hc, decide_true, if_true] at h2
            exact h2 hl
          · have h2 := hk _ _ _ _ hS ls
            have hne := mt e3.mpr hc
            simp only [hne, decide_false, if_false, Bool.false_eq_true] at h2
            exact h2 hl
        · simp only [Option.map_eq_some_iff, Prod.mk.injEq] at h1
          obtain ⟨f0, hf0, rfl, rfl⟩ := h1
          obtain ⟨t, ht, rfl⟩ := zx_br_get hf0
          refine lv_acmp_ne hx hb hd ht (fun hc => ?_) (fun hc => ?_)
          · have h2 := hk _ _ _ _ hS ls
            have hne := mt e3.mpr hc
            simp only [hne, not_false_eq_true, decide_true, if_true] at h2
            exact h2 hl
          · have h2 := hk _ _ _ _ hS ls
            simp only [e3.mp hc, not_true, decide_false, if_false, Bool.false_eq_true] at h2
            exact h2 hl
      · cases h1
    · cases h1
  · -- dastore
    split at h1
    · split at h1
      · next hq =>
        split at h1
        · next hc => cases h1; exact zx_dast_ok C hS hd hq hc.1 hc.2 (fun H' locs' hS' => hk _ _ _ _ hS' ls hl)
        · cases h1
      · cases h1
    · cases h1
  · -- invokespecial Object.<init>
    split at h1
    · split at h1
      · next kd x y hh hp =>
        split at h1
        · next hc =>
          obtain ⟨rfl, hsum⟩ := hc
          cases h1
          have hw := zx_pool_ok hon hp
          refine W.objInit hx hb hown (hts _ hw) (hts _ zt_obj_words.1) (hts _ zt_obj_words.2) rfl (by rw [hml]; exact hl.1) rfl hd hRf ?_ ?_
          · rw [zx_cats]
            show 2 * 0 + _ + 12 ≤ R.locals
            omega
          · exact hk _ _ _ _ hS ls hl
        · cases h1
      · cases h1
    · cases h1
  · -- ldc2_w
    simp only [Option.map_eq_some_iff, Prod.mk.injEq] at h1
    obtain ⟨q, hq, rfl, rfl⟩ := h1
    exact lv_ldc2 hx hb hown (hts _ (zx_lng_ok hon hq)) hd (hk _ _ _ _ hS ls hl)
  · cases h1
end ZXJ
end
section
/-! ===== the further heap steps are the kit's rows ===== -/
section ZXK2
variable {p : Program} {l : Launch} {e : Env} {R : Room} {s : State} {m : MethodId} {args : Array Value} {below : List Frame} {meth : Method} {c : Code} {H : Heap} {locs : List Loc} {cells slots : Nat} {Q : State → Prop} {cc : ByteArray} {pc nL : Nat} {ls : Array Slot} {lv : List (Nat × Value)} {st : List Value} {a : Nat → Nat}
variable {D : va_G} {dA : Nat → ClassId} {B b n0 z0 oc : Nat} {own : String} {ini : Bool} {sc : (Nat × (Nat → Int32)) × Bool} {h : zx_H}
theorem zx_x_at {q : Nat} {e0 : FieldType × zx_E} (h : zx_x q = some e0) : ∃ j, q = zx_lim + 1 + j ∧ zt_ext j = some e0 := by
  unfold zx_x at h
  split at h
  · next hq => exact ⟨q - zx_lim - 1, by omega, h⟩
  · cases h
theorem zx_x_ok {nf : Bool} {H0 : Heap} (hF : zx_XF B a nf s H0) {q : Nat} {e0 : FieldType × zx_E} (h : zx_x q = some e0) : zx_xe B a s H0 q e0 := by
  obtain ⟨j, rfl, hj⟩ := zx_x_at h
  exact hF.1 j e0 hj
theorem zx_or2_ok {nf : Bool} {H0 : Heap} (hF : zx_XF B a nf s H0) (ha : ∀ k, k < zx_lim → a k = B + k) {x y : Value} {u w : Option Nat} (hx : zx_or2 x = some u) (hy : zx_or2 y = some w) : zx_v a x = va_rf (u.map a) ∧ zx_v a y = va_rf (w.map a) ∧ (u.map a = w.map a ↔ u = w) := by
  have key : ∀ {z : Value} {t : Option Nat}, zx_or2 z = some t → zx_v a z = va_rf (t.map a) ∧ (t = none ∨ ∃ k, t = some k ∧ ((k < zx_lim ∧ a k = B + k) ∨ (k = zx_lim + 1 ∧ a k < B))) := by
    intro z t hz
    unfold zx_or2 at hz
    split at hz
    · cases hz; exact ⟨rfl, Or.inl rfl⟩
    · next k =>
      split at hz
      · next hk =>
        cases hz
        refine ⟨rfl, Or.inr ⟨k, rfl, ?_⟩⟩
        rcases hk with hk | ⟨rfl, hk⟩
        · exact Or.inl ⟨hk, ha k hk⟩
        · obtain ⟨q, hq⟩ := Option.isSome_iff_exists.mp hk
          exact Or.inr ⟨rfl, hF.2.2.2.1 0 q hq⟩
      · cases hz
    · cases hz
  obtain ⟨e1, h1⟩ := key hx
  obtain ⟨e2, h2⟩ := key hy
  refine ⟨e1, e2, ⟨fun h9 => ?_, fun h9 => by rw [h9]⟩⟩
  rcases h1 with rfl | ⟨k, rfl, h1⟩ <;> rcases h2 with rfl | ⟨j, rfl, h2⟩
  · rfl
  · cases h9
  · cases h9
  · simp only [Option.map_some, Option.some.injEq] at h9 ⊢
    omega
theorem zx_ob_any (C : zx_Cx D dA B a b sc oc own ini cc nL p s m args meth c) (hS : zx_S D dA B a n0 z0 s h H locs cells slots) {k : Nat} (hk : zx_ob h k = true) : va_Any "java/lang/Object" s H (a k) := by
  obtain ⟨hx, hb, hml, hown, hon, hts, hnw, hK, hini, ha, hab, hbB, hBs, hX, hK2, hH2⟩ := C
  unfold zx_ob at hk
  split at hk
  · next ci fs hq =>
    have hci : ci < zt_x0 := by simpa using hk
    rw [zx_S_q hS ha hq]
    have hg := zx_w_get (dA := dA) (B := B) (a := a) hq
    obtain ⟨r, hr, -⟩ := hS.1 _ _ hg
    exact va_rAny hK hS.1 hg hr (fun comp c0 h1 h2 => vb_asgC (hnw _ (zt_cobj ci r hci hr)) comp c0 h1 h2)
  · next t x hq =>
    have ht : t < zt_at.length := by simpa using hk
    rw [zx_S_q hS ha hq]
    have hg := zx_w_get (dA := dA) (B := B) (a := a) hq
    have hty := List.getElem?_eq_getElem ht
    obtain ⟨nm, hnm, hcast⟩ := zt_aobj t _ hty
    have hfc := zx_RA_fc (hK.2 t _ (zx_tys_get hty)).2
    dsimp only at hfc
    rw [← hnm] at hfc
    obtain ⟨k9, h9, -⟩ := Vm.findClass_spec hfc
    have hcell : ∃ cell : Cell, H[B + k]? = some cell ∧ cell.vm.isStatics = false ∧ cell.cls = dA t := by
      have h8 := hS.1 _ _ hg
      obtain ⟨n, x⟩ := x
      rcases x with x | x | x | x | x <;> exact ⟨_, h8, rfl, rfl⟩
    obtain ⟨cell, c1, c2, c3⟩ := hcell
    refine ⟨cell, c1, c2, ⟨k9, by rw [c3]; exact h9⟩, fun comp hcomp => ?_⟩
    rw [c3]
    exact vb_asgC (hnw _ hcast) comp (dA t) hcomp hfc
  · next hq =>
    split at hk
    · next C1 o1 hxx =>
      obtain ⟨j, hj, hjx⟩ := zx_x_at hxx
      have hxe := zx_x_ok hH2.1 hxx
      obtain ⟨ci1, fs1⟩ := o1
      obtain ⟨hO, -⟩ := hxe
      obtain ⟨cell, c1, c2, c3, c4⟩ := va_O.kept hO hS.2.1.2.1
      obtain ⟨k9, h9, -⟩ := Vm.findClass_spec c3
      exact ⟨cell, c1, c2, ⟨k9, h9⟩, fun comp hcomp => vb_asgC (hnw _ (zt_xobj C1 (zt_ext_obj j C1 _ hjx))) comp cell.cls hcomp c3⟩
    · cases hk
theorem zt_ac_words : nativeFrameWords "java/lang/System" "arraycopy" 5 + 11 + 8 ≤ 150 := by decide +kernel
set_option maxHeartbeats 4000000 in
theorem zx_h2_ok (C : zx_Cx D dA B a b sc oc own ini cc nL p s m args meth c) (hS : zx_S D dA B a n0 z0 s h H locs cells slots) {ins : Instr} {n : Nat} {f : zx_F} {h' : zx_H} (hd : decode cc pc = .ok (ins, n)) (hl : lv_has ls nL (zx_l a lv)) (h1 : zx_h2 oc sc pc lv st h ins n = some (f, h'))
    (hc1 : cells ≤ R.cells) (hs1 : slots ≤ R.slots) (hRf : 1 ≤ R.frames) (hRl : 150 ≤ R.locals) (hk : zx_KH D dA B n0 z0 p l e R s m args below meth c Q nL a (f, h')) : W p l e R s m args below meth c H locs cells slots Q (F0 m pc ls (zx_st a st)) := by
  have C0 := C
  obtain ⟨hx, hb, hml, hown, hon, hts, hnw, hK, hini, ha, hab, hbB, hBs, hX, hK2, hH2⟩ := C0
  have hF := hH2.1
  have hmls : c.maxLocals = ls.size := by rw [hml]; exact hl.1.symm
  have hsum : ∀ r : List Value, (r.map fun v => v.category).sum ≤ 8 → ((zx_st a r).map fun v => v.category).sum ≤ 8 := fun r hr => by rw [zx_cats]; exact hr
  have hac := zt_ac_words
  unfold zx_h2 at h1
  split at h1
  · -- getfield
    split at h1
    · next q r =>
      split at h1
      · next ci k w0 C1 cj fs hp hxx =>
        split at h1
        · next hc =>
          subst hc
          split at h1
          · cases h1
          · next v hnr hv =>
            cases h1
            obtain ⟨r9, ref, hr, hkN, hw, hsm⟩ := zx_pool_ok hon hp
            obtain ⟨hO, hor⟩ := zx_x_ok hF hxx
            rcases hor with h9 | ⟨r8, hr8, -, hfs⟩
            · subst h9
              exact absurd (List.getElem?_eq_some_iff.mp hr).1 (by decide)
            · cases Option.some.inj (hr.symm.trans hr8)
              obtain ⟨-, hOF⟩ := hfs k v hv (fun z hz => hnr z hz)
              exact va_getX (N := 1) (i := 0) (v := fun _ => zx_v a v) (ad := fun _ => a q) hx hb (fun _ _ => hOF) Nat.zero_lt_one hS.2.1 hown (hts _ hw) (zx_same hts hsm) hd (hk _ _ _ _ hS ls hl)
          · cases h1
        · cases h1
      · cases h1
    · cases h1
  · -- getstatic
    split at h1
    · next x y0 w0 hp =>
      simp only [Option.map_eq_some_iff, Prod.mk.injEq] at h1
      obtain ⟨v, hv, rfl, rfl⟩ := h1
      obtain ⟨e9, he9, hw⟩ := zx_pool_ok hon hp
      exact va_gets hx hb (hF.2.1 x e9 v he9 hv) hS.2.1 hown (hts _ hw) (fun _ h9 => h9) hd (hk _ _ _ _ hS ls hl)
    · cases h1
  · -- arraylength
    split at h1
    · next q r =>
      split at h1
      · next ty t n x hxx =>
        cases h1
        have hxe := zx_x_ok hF hxx
        rcases x with x | x | x | x | x
        · exact va_tlen hx hb hxe hS.2.1 rfl hd (hk _ _ _ _ hS ls hl)
        · cases ty <;> exact hxe.elim
        · cases ty <;> exact hxe.elim
        · cases ty <;> exact hxe.elim
        · exact va_tlen hx hb hxe hS.2.1 rfl hd (hk _ _ _ _ hS ls hl)
      · cases h1
    · cases h1
  · -- baload
    split at h1
    · next i q r =>
      split at h1
      · next t n f hxx =>
        split at h1
        · next hin =>
          cases h1
          exact va_tb hx hb (zx_x_ok hF hxx) hS.2.1 hin rfl hd (hk _ _ _ _ hS ls hl)
        · cases h1
      · cases h1
    · cases h1
  · -- aaload
    split at h1
    · next i q r =>
      split at h1
      · next C1 t n f hxx =>
        split at h1
        · next hin =>
          cases h1
          exact vb_tq hx hb (zx_x_ok hF hxx) hS.2.1 hin rfl hd (hk _ _ _ _ hS ls hl)
        · cases h1
      · cases h1
    · cases h1
  · -- aastore
    split at h1
    · next k i q r =>
      split at h1
      · next t n f hq =>
        split at h1
        · next hc =>
          obtain ⟨rfl, h999, hob, hin⟩ := hc
          cases h1
          have hany := zx_ob_any C hS hob
          have hqa : a q = B + q := zx_S_q hS ha hq
          show W p l e R s m args below meth c H locs cells slots Q (F0 m pc ls (.ref (a k) :: .int i :: .ref (a q) :: zx_st a r))
          rw [hqa]
          refine va_astqM hx hb hK hS.1 zx_w_D hS.2.1 q zt_objT (zx_w_get hq) (zx_tys_get (zt_objT_ok h999)) hany hin hd (fun H1 locs1 hP _ hV => ?_)
          refine hk _ _ _ _ (zx_S_set (e1 := .inl (zt_objT, n, .inr (.inr (.inr (.inr (va_up f i.toNatClampNeg (some k))))))) hS hq rfl ?_ hV) ls hl
          have e9 := zx_up_map a f i.toNatClampNeg (some k)
          simp only [zx_e, e9]
          exact hP
        · cases h1
      · cases h1
    · cases h1
  · -- checkcast
    split at h1
    · cases h1
      exact lv_castN hx hb hd (hk _ _ _ _ hS ls hl)
    · next k r =>
      split at h1
      · next ci y0 w0 hp =>
        obtain ⟨C1, hw, hC, -⟩ := zx_pool_ok hon hp
        split at h1
        · next cj fs hq =>
          split at h1
          · next hc =>
            obtain ⟨rfl, h999⟩ := hc
            cases h1
            have hC2 : (zt_cl[cj]?).map (·.1) = some C1 := hC.resolve_left h999
            simp only [Option.map_eq_some_iff] at hC2
            obtain ⟨r9, hr9, rfl⟩ := hC2
            have hrecv := va_recv hK hS.1 hr9 (zx_w_get hq)
            rw [← zx_S_q hS ha hq] at hrecv
            exact va_castE hx hb hown (hts _ hw) hrecv hd (hk _ _ _ _ hS ls hl)
          · cases h1
        · split at h1
          · next C2 cj fs hxx =>
            split at h1
            · next hc =>
              obtain ⟨rfl, h999⟩ := hc
              cases h1
              have hC2 : (zt_cl[cj]?).map (·.1) = some C1 := hC.resolve_left h999
              simp only [Option.map_eq_some_iff] at hC2
              obtain ⟨r9, hr9, rfl⟩ := hC2
              obtain ⟨hO, hor⟩ := zx_x_ok hF hxx
              obtain ⟨r8, hr8, hC9, -⟩ := hor.resolve_left h999
              cases Option.some.inj (hr9.symm.trans hr8)
              obtain ⟨cell, c1, c2, c3, c4⟩ := va_O.kept hO hS.2.1.2.1
              exact va_castE hx hb hown (hts _ hw) ⟨cell, c1, c2, by rw [hC9]; exact c3⟩ hd (hk _ _ _ _ hS ls hl)
            · cases h1
          · cases h1
      · next t y0 w0 hp =>
        obtain ⟨nm, ty, hw, hty, hnm⟩ := zx_pool_ok hon hp
        split at h1
        · next t' x hq =>
          split at h1
          · next hc =>
            subst hc
            cases h1
            have hfc := zx_RA_fc (hK.2 t' _ (zx_tys_get hty)).2
            dsimp only at hfc
            rw [← hnm] at hfc
            have hqa : a k = B + k := zx_S_q hS ha hq
            show W p l e R s m args below meth c H locs cells slots Q (F0 m pc ls (.ref (a k) :: zx_st a r))
            have hk9 := hk _ _ _ _ hS ls hl
            have hk9 : W p l e R s m args below meth c H locs cells slots Q (F0 m (pc + 3) ls (.ref (a k) :: zx_st a r)) := hk9
            rw [hqa] at hk9 ⊢
            have hg := zx_w_get (dA := dA) (B := B) (a := a) hq
            obtain ⟨n9, x⟩ := x
            rcases x with x | x | x | x | x <;> exact va_castA hx hb hown (hts _ hw) hS.1 k hg hfc hd hk9
          · cases h1
        · cases h1
      · next x0 y0 w0 hp =>
        split at h1
        · next hc =>
          cases h1
          have hw := zx_pool_ok hon hp
          have hO : ∃ cell : Cell, H[a k]? = some cell ∧ cell.vm.isStatics = false ∧ s.vm.findClass "java/lang/Boolean" = some cell.cls := by
            rcases hc with ⟨rfl, hz⟩ | ⟨rfl, hz⟩
            · obtain ⟨cell, c1, c2, c3, c4⟩ := va_O.kept (hF.1 1 _ (zt_bool1 hz)).1 hS.2.1.2.1
              exact ⟨cell, c1, c2, c3⟩
            · obtain ⟨cell, c1, c2, c3, c4⟩ := va_O.kept (hF.1 2 _ (zt_bool2 hz)).1 hS.2.1.2.1
              exact ⟨cell, c1, c2, c3⟩
          exact va_castE hx hb hown (hts _ hw) hO hd (hk _ _ _ _ hS ls hl)
        · cases h1
      · cases h1
    · cases h1
  · -- bastore
    split at h1
    · next x i q r =>
      split at h1
      · next t n f hq =>
        have hqa : a q = B + q := zx_S_q hS ha hq
        show W p l e R s m args below meth c H locs cells slots Q (F0 m pc ls (.int x :: .int i :: .ref (a q) :: zx_st a r))
        rw [hqa]
        split at h1
        · next hc =>
          cases h1
          exact va_zast hx hb hK hS.1 zx_w_D hS.2.1 q t (zx_w_get hq) (zx_tys_get hc.1) hc.2 hd (fun H1 locs1 hP _ hV => hk _ _ _ _ (zx_S_set (e1 := .inl (t, n, .inl (upd f i.toNatClampNeg (vp_nar .boolean x)))) hS hq rfl hP hV) ls hl)
        · split at h1
          · next hc =>
            cases h1
            exact va_bast hx hb hK hS.1 zx_w_D hS.2.1 q t (zx_w_get hq) (zx_tys_get hc.1) hc.2 hd (fun H1 locs1 hP _ hV => hk _ _ _ _ (zx_S_set (e1 := .inl (t, n, .inl (upd f i.toNatClampNeg (vp_nar .byte x)))) hS hq rfl hP hV) ls hl)
          · cases h1
      · cases h1
    · cases h1
  · -- invokestatic: Math, arraycopy
    split at h1
    · next x0 w0 hp =>
      have hw := zx_pool_ok hon hp
      split at h1
      · next y x r =>
        split at h1
        · next hc =>
          cases h1
          have h9 : ((List.map (zx_v a) r).map fun v => v.category).sum ≤ 8 := hsum r hc
          rcases hw with ⟨-, w1, w2, w3, w4⟩ | ⟨h8, -⟩ | ⟨h8, -⟩
          · exact va_mmax hx hb hmls hown (hts _ w1) (hts _ w2) (hts _ w3) (hts _ w4) hRf (by omega) hc1 hs1 hd (hk _ _ _ _ hS ls hl)
          · exact absurd h8 (by decide)
          · exact absurd h8 (by decide)
        · cases h1
      · cases h1
    · next x0 w0 hp =>
      have hw := zx_pool_ok hon hp
      split at h1
      · next y x r =>
        split at h1
        · next hc =>
          cases h1
          have h9 : ((List.map (zx_v a) r).map fun v => v.category).sum ≤ 8 := hsum r hc
          rcases hw with ⟨h8, -⟩ | ⟨-, w1, w2, w3, w4⟩ | ⟨h8, -⟩
          · exact absurd h8 (by decide)
          · exact va_mmin hx hb hmls hown (hts _ w1) (hts _ w2) (hts _ w3) (hts _ w4) hRf (by omega) hc1 hs1 hd (hk _ _ _ _ hS ls hl)
          · exact absurd h8 (by decide)
        · cases h1
      · cases h1
    · next x0 w0 hp =>
      have hw := zx_pool_ok hon hp
      split at h1
      · next y x r =>
        split at h1
        · next hc =>
          cases h1
          have h9 : ((List.map (zx_v a) r).map fun v => v.category).sum ≤ 8 := hsum r hc
          rcases hw with ⟨h8, -⟩ | ⟨h8, -⟩ | ⟨-, w1, w2, w3, w4⟩
          · exact absurd h8 (by decide)
          · exact absurd h8 (by decide)
          · exact va_mmin_long hx hb hmls hown (hts _ w1) (hts _ w2) (hts _ w3) (hts _ w4) hRf (by omega) hc1 hs1 hd (hk _ _ _ _ hS ls hl)
        · cases h1
      · cases h1
    · next x0 y0 w0 hp =>
      have hw := zx_pool_ok hon hp
      split at h1
      · next len dp q1 sp q0 r =>
        split at h1
        · next t0 m0 f0 t1 m1 g0 hq0 hq1 =>
          split at h1
          · next hc =>
            obtain ⟨rfl, hty, c1, c2, c3, c4, c5, c6⟩ := hc
            cases h1
            have h9 := hsum r c6
            show W p l e R s m args below meth c H locs cells slots Q (F0 m pc ls (.int len :: .int dp :: .ref (a q1) :: .int sp :: .ref (a q0) :: zx_st a r))
            rw [zx_S_q hS ha hq0, zx_S_q hS ha hq1]
            exact va_copyi hx hb hmls hown (hts _ hw) (hts _ zt_acopy.1) (hts _ zt_acopy.2.1) (hts _ zt_acopy.2.2) hK hS.1 zx_w_D hS.2.1 q0 q1 t0 t0 (zx_w_get hq0) (zx_w_get hq1) (zx_tys_get hty) (zx_tys_get hty) rfl c1 c2 c3 c4 c5 (fun _ _ => rfl) hRf (by omega) hd (fun H1 locs1 hP _ hV => hk _ _ _ _ (zx_S_set (e1 := .inl (t0, m1, .inl (va_cpy f0 g0 sp.toNatClampNeg dp.toNatClampNeg len.toNatClampNeg))) hS hq1 rfl hP hV) ls hl)
          · cases h1
        · next t0 m0 f0 t1 m1 g0 hq0 hq1 =>
          split at h1
          · next hc =>
            obtain ⟨rfl, hty, c1, c2, c3, c4, c5, c6⟩ := hc
            cases h1
            have h9 := hsum r c6
            show W p l e R s m args below meth c H locs cells slots Q (F0 m pc ls (.int len :: .int dp :: .ref (a q1) :: .int sp :: .ref (a q0) :: zx_st a r))
            rw [zx_S_q hS ha hq0, zx_S_q hS ha hq1]
            exact va_copyl hx hb hmls hown (hts _ hw) (hts _ zt_acopy.1) (hts _ zt_acopy.2.1) (hts _ zt_acopy.2.2) hK hS.1 zx_w_D hS.2.1 q0 q1 t0 t0 (zx_w_get hq0) (zx_w_get hq1) (zx_tys_get hty) (zx_tys_get hty) rfl c1 c2 c3 c4 c5 (fun _ _ => rfl) hRf (by omega) hd (fun H1 locs1 hP _ hV => hk _ _ _ _ (zx_S_set (e1 := .inl (t0, m1, .inr (.inl (va_cpy f0 g0 sp.toNatClampNeg dp.toNatClampNeg len.toNatClampNeg)))) hS hq1 rfl hP hV) ls hl)
          · cases h1
        · cases h1
      · cases h1
    · cases h1
  · -- ldc
    split at h1
    · next x w0 hp =>
      cases h1
      obtain ⟨tx, -, hst⟩ := zx_pool_ok hon hp
      exact va_ldcS hx hb hown (hF.2.2.1 _ (hst rfl)) hd (hk _ _ _ _ hS ls hl)
    · cases h1
  · -- if_acmp
    split at h1
    · split at h1
      · next hu hw =>
        obtain ⟨e1, e2, e3⟩ := zx_or2_ok hF ha hu hw
        simp only [zx_st, List.map_cons]
        rw [e1, e2]
        split at h1
        · simp only [Option.map_eq_some_iff, Prod.mk.injEq] at h1
          obtain ⟨f0, hf0, rfl, rfl⟩ := h1
          obtain ⟨t, ht, rfl⟩ := zx_br_get hf0
          refine lv_acmp_eq hx hb hd ht (fun hc => ?_) (fun hc => ?_)
          · have h2 := hk _ _ _ _ hS ls
            simp only [e3.mp hc, decide_true, if_true] at h2
            exact h2 hl
          · have h2 := hk _ _ _ _ hS ls
            have hne := mt e3.mpr hc
            simp only [hne, decide_false, if_false, Bool.false_eq_true] at h2
            exact h2 hl
        · simp only [Option.map_eq_some_iff, Prod.mk.injEq] at h1
          obtain ⟨f0, hf0, rfl, rfl⟩ := h1
          obtain ⟨t, ht, rfl⟩ := zx_br_get hf0
          refine lv_acmp_ne hx hb hd ht (fun hc => ?_) (fun hc => ?_)
          · have h2 := hk _ _ _ _ hS ls
            have hne := mt e3.mpr hc
            simp only [hne, not_false_eq_true, decide_true, if_true] at h2
            exact h2 hl
          · have h2 := hk _ _ _ _ hS ls
            simp only [e3.mp hc, not_true, decide_false, if_false, Bool.false_eq_true] at h2
            exact h2 hl
      · cases h1
    · cases h1
  · cases h1
end ZXK2
end
section
/-! ===== runs: calls, answers, throws, handlers ===== -/
abbrev zx_O : Type := (Option Value) ⊕ Nat
def zx_cs (st : List Value) : Nat := (st.map fun v => v.category).sum
/-- a method's answer -/
def zx_rt (ret : Option FieldType) (st : List Value) : Instr → Nat → Option (Option Value)
  | .ireturn, 1 => match st, ret with
    | [.int v], some ty => if narrow ty (.int v) = .int v then some (some (.int v)) else none
    | _, _ => none
  | .lreturn, 1 => match st, ret with
    | [.long v], some .long => some (some (.long v))
    | _, _ => none
  | .freturn, 1 => match st, ret with
    | [.float v], some .float => some (some (.float v))
    | _, _ => none
  | .dreturn, 1 => match st, ret with
    | [.double v], some .double => some (some (.double v))
    | _, _ => none
  | .areturn, 1 => match st, ret with
    | [.ref k], some (.object _) => some (some (.ref k))
    | [.ref k], some (.array _) => some (some (.ref k))
    | [.null], some (.object _) => some (some .null)
    | [.null], some (.array _) => some (some .null)
    | _, _ => none
  | .return_, 1 => match st, ret with
    | [], none => some none
    | _, _ => none
  | _, _ => none
/-- a call: the method's place, its arguments, what lies below them -/
def zx_c (oc : Nat) (st : List Value) (h : zx_H) : Instr → Nat → Option (Nat × List Value × List Value)
  | .invokestatic i, 3 => match zx_pool oc i with
    | some (kd, mj, _, _) => match zt_m[mj]? with
      | some (_, _, nL, _, hh, oj, np, _, hs, _, _) => if zt_pln[oj]? = some true ∧ (kd = 4 ∨ (kd = 5 ∧ hh = [])) ∧ hs = 1 ∧ 0 < mj ∧ np ≤ st.length ∧ zx_cs (st.drop np) ≤ 8 ∧ (lg_sl (st.take np).reverse).length ≤ nL then some (mj, (st.take np).reverse, st.drop np) else none
      | none => none
    | none => none
  | .invokevirtual i, 3 => match zx_pool oc i with
    | some (kd, mj, _, _) => match zt_m[mj]? with
      | some (_, _, nL, _, hh, oj, np, _, hs, hsel, _) => match st.drop np with
        | .ref q :: rest => match h[q]? with
          | some (.inr (ci, _)) => if zt_pln[oj]? = some true ∧ (kd = 6 ∨ kd = 7) ∧ hh = [] ∧ hs = 0 ∧ hsel = 0 ∧ 0 < mj ∧ ci = oj ∧ zx_cs rest ≤ 8 ∧ (lg_sl (.ref q :: (st.take np).reverse)).length ≤ nL then some (mj, .ref q :: (st.take np).reverse, rest) else none
          | _ => none
        | _ => none
      | none => none
    | none => none
  | .invokespecial i, 3 => match zx_pool oc i with
    | some (kd, mj, _, _) => match zt_m[mj]? with
      | some (_, _, nL, ret, hh, oj, np, _, hs, _, _) => match st.drop np with
        | .ref q :: rest => if zt_pln[oj]? = some true ∧ (kd = 8 ∨ kd = 9) ∧ hh = [] ∧ hs = 2 ∧ ret = none ∧ 0 < mj ∧ zx_cs rest ≤ 8 ∧ (lg_sl (.ref q :: (st.take np).reverse)).length ≤ nL then some (mj, .ref q :: (st.take np).reverse, rest) else none
        | _ => none
      | none => none
    | none => none
  | .invokeinterface i _, 5 => match zx_pool oc i with
    | some (11, mj, y0, _) => match zt_m[mj]? with
      | some (_, _, nL, _, hh, oj, np, _, hs, _, _) => match st.drop np with
        | .ref q :: rest => match h[q]? with
          | some (.inr (ci, _)) => if hh = [] ∧ hs = 0 ∧ zt_pln[oj]? = some true ∧ ci = oj ∧ zx_cs rest ≤ 8 ∧ (lg_sl (.ref q :: (st.take np).reverse)).length ≤ nL ∧ (zt_ift[y0]?).map (·.2) = some mj then some (mj, .ref q :: (st.take np).reverse, rest) else none
          | _ => none
        | _ => none
      | none => none
    | _ => none
  | _, _ => none
/-- throw new E("text"): which E -/
def zx_th (oc : Nat) (cc : ByteArray) (pc : Nat) (st : List Value) : Instr → Nat → Option Nat
  | .new ik, 3 => match zx_pool oc ik with
    | some (2, ci, _, _) => if zt_x0 ≤ ci ∧ zx_cs st ≤ 8 then
      match decode cc (pc + 3), decode cc (pc + 4) with
      | .ok (.dup, 1), .ok (.ldc i, 2) => match decode cc (pc + 6), decode cc (pc + 9) with
        | .ok (.invokespecial ic, 3), .ok (.athrow, 1) => if (oc, ic, ci) ∈ zt_exw ∧ (zx_pool oc i).map (·.1) = some 13 then some ci else none
        | _, _ => none
      | .ok (.dup, 1), .ok (.ldc_w i, 3) => match decode cc (pc + 7), decode cc (pc + 10) with
        | .ok (.invokespecial ic, 3), .ok (.athrow, 1) => if (oc, ic, ci) ∈ zt_exw ∧ (zx_pool oc i).map (·.1) = some 13 then some ci else none
        | _, _ => none
      | _, _ => none
      else none
    | _ => none
  | _, _ => none
/-- where an exception E thrown at pc is caught: some none: nowhere here -/
def zx_hd (oc pc E : Nat) : List (Nat × Nat × Nat × Nat) → Option (Option Nat)
  | [] => some none
  | (s0, e0, hp, ct) :: r => if s0 ≤ pc ∧ pc < e0 then
      match zx_pool oc ct with
      | some (kd, cj, _, _) => if kd = 2 ∧ zt_x0 ≤ cj ∧ cj ≠ 999 ∧ ct ≠ 0 then (if cj = E then some (some hp) else zx_hd oc pc E r) else none
      | none => none
    else zx_hd oc pc E r
/-- a handler begins by putting the exception away -/
def zx_ca (cc : ByteArray) (nL hp : Nat) (lv : List (Nat × Value)) : Option zx_F := match decode cc hp with
  | .ok (.astore_n k, 1) => if (k : Nat) < nL then some (hp + 1, (zx_s1 k .null lv).tail, []) else none
  | .ok (.astore k, 2) => if k < nL then some (hp + 2, (zx_s1 k .null lv).tail, []) else none
  | _ => none
def zx_run (sc : (Nat × (Nat → Int32)) × Bool) : Nat → Nat → Nat → zx_F → zx_H → Option (zx_O × zx_H)
  | 0, _, _, _, _ => none
  | n + 1, d, mi, f, h => match zt_m[mi]? with
    | none => none
    | some (_, cc, nL, ret, hh, oc, _, _, hs, _, _) => match decode cc f.1 with
      | .error _ => none
      | .ok (ins, len) => match zx_p nL f.1 f.2.1 f.2.2 ins len with
        | some f' => zx_run sc n d mi f' h
        | none => match zx_h oc (hs == 2) sc f.1 f.2.1 f.2.2 h ins len with
          | some (f', h') => zx_run sc n d mi f' h'
          | none => match zx_h2 oc sc f.1 f.2.1 f.2.2 h ins len with
          | some (f', h') => zx_run sc n d mi f' h'
          | none => match zx_rt ret f.2.2 ins len with
            | some v => some (.inl v, h)
            | none => match zx_c oc f.2.2 h ins len with
              | some (mj, as, rest) => match d with
                | 0 => none
                | d' + 1 => match zx_run sc n d' mj (0, lv_args 0 as, []) h with
                  | none => none
                  | some (.inl v, h') => zx_run sc n (d' + 1) mi (f.1 + len, f.2.1, v.toList ++ rest) h'
                  | some (.inr E, h') => match zx_hd oc f.1 E hh with
                    | none => none
                    | some none => some (.inr E, h')
                    | some (some hp) => match zx_ca cc nL hp f.2.1 with
                      | none => none
                      | some f' => zx_run sc n (d' + 1) mi f' h'
              | none => match zx_th oc cc f.1 f.2.2 ins len with
                | some ci => if hh = [] ∧ h.length < zx_lim then some (.inr ci, h ++ [.inr (ci, [])]) else none
                | none => none
theorem zx_sz_push (h : zx_H) (e : zx_E) : zx_sz (h ++ [e]) = zx_sz h + zx_sz1 e := by simp [zx_sz]
theorem zx_h_mono {oc : Nat} {ini : Bool} {sc : (Nat × (Nat → Int32)) × Bool} {pc : Nat} {lv : List (Nat × Value)} {st : List Value} {h h' : zx_H} {ins : Instr} {n : Nat} {f : zx_F} (h1 : zx_h oc ini sc pc lv st h ins n = some (f, h')) : h.length ≤ h'.length ∧ zx_sz h ≤ zx_sz h' := by
  have hset : ∀ {k : Nat} {e0 e1 : zx_E}, h[k]? = some e0 → zx_sz1 e1 = zx_sz1 e0 → h.length ≤ (h.set k e1).length ∧ zx_sz h ≤ zx_sz (h.set k e1) := fun hk hz => ⟨by rw [List.length_set]; exact Nat.le_refl _, by rw [zx_sz_set hk hz]; exact Nat.le_refl _⟩
  have hpush : ∀ {e : zx_E}, h.length ≤ (h ++ [e]).length ∧ zx_sz h ≤ zx_sz (h ++ [e]) := fun {e} => ⟨by simp, by rw [zx_sz_push]; omega⟩
  have hsame : h.length ≤ h.length ∧ zx_sz h ≤ zx_sz h := ⟨Nat.le_refl _, Nat.le_refl _⟩
  unfold zx_h at h1
  split at h1
  all_goals (try (simp only [Option.map_eq_some_iff, Prod.mk.injEq] at h1))
  all_goals (repeat' (split at h1))
  all_goals (try (cases h1; done))
  all_goals (try (simp only [Option.map_eq_some_iff, Prod.mk.injEq] at h1))
  all_goals (first
    | (cases h1; exact hsame)
    | (cases h1; exact hpush)
    | (obtain ⟨_, _, _, rfl⟩ := h1; exact hsame)
    | (cases h1; refine hset (e0 := ?_) ?_ ?_; rotate_left; assumption; rfl)
    | skip)
  obtain ⟨v9, hv, -, rfl⟩ := h1
  unfold zx_putf at hv
  split at hv
  · split at hv
    · next hq =>
      split at hv
      · next hc =>
        obtain ⟨rfl, -⟩ := hc
        cases hv
        exact hset hq rfl
      · cases hv
    · cases hv
  · cases hv
theorem zx_h2_mono {oc : Nat} {sc : (Nat × (Nat → Int32)) × Bool} {pc : Nat} {lv : List (Nat × Value)} {st : List Value} {h h' : zx_H} {ins : Instr} {n : Nat} {f : zx_F} (h1 : zx_h2 oc sc pc lv st h ins n = some (f, h')) : h.length ≤ h'.length ∧ zx_sz h ≤ zx_sz h' := by
  have hset : ∀ {k : Nat} {e0 e1 : zx_E}, h[k]? = some e0 → zx_sz1 e1 = zx_sz1 e0 → h.length ≤ (h.set k e1).length ∧ zx_sz h ≤ zx_sz (h.set k e1) := fun hk hz => ⟨by rw [List.length_set]; exact Nat.le_refl _, by rw [zx_sz_set hk hz]; exact Nat.le_refl _⟩
  have hsame : h.length ≤ h.length ∧ zx_sz h ≤ zx_sz h := ⟨Nat.le_refl _, Nat.le_refl _⟩
  unfold zx_h2 at h1
  split at h1
  all_goals (repeat' (split at h1))
  all_goals (try (cases h1; done))
  all_goals (try (simp only [Option.map_eq_some_iff, Prod.mk.injEq] at h1))
  all_goals (first
    | (cases h1; exact hsame)
    | (obtain ⟨_, _, _, rfl⟩ := h1; exact hsame)
    | (cases h1; refine hset (e0 := ?_) ?_ ?_; rotate_left; assumption; rfl)
    | skip)
theorem zx_run_mono {sc : (Nat × (Nat → Int32)) × Bool} : ∀ (n d mi : Nat) (f : zx_F) (h : zx_H) (o : zx_O) (h' : zx_H), zx_run sc n d mi f h = some (o, h') → h.length ≤ h'.length ∧ zx_sz h ≤ zx_sz h' := by
  intro n
  induction n with
  | zero => intro d mi f h o h' h1; cases h1
  | succ n ih =>
    intro d mi f h o h' h1
    unfold zx_run at h1
    split at h1
    · cases h1
    · split at h1
      · cases h1
      · split at h1
        · exact ih _ _ _ _ _ _ h1
        · split at h1
          · next hh =>
            have h2 := zx_h_mono hh
            have h3 := ih _ _ _ _ _ _ h1
            omega
          · split at h1
            · next hh =>
              have h2 := zx_h2_mono hh
              have h3 := ih _ _ _ _ _ _ h1
              omega
            split at h1
            · cases h1; exact ⟨Nat.le_refl _, Nat.le_refl _⟩
            · split at h1
              · split at h1
                · cases h1
                · split at h1
                  · cases h1
                  · next hh =>
                    have h2 := ih _ _ _ _ _ _ hh
                    have h3 := ih _ _ _ _ _ _ h1
                    omega
                  · next hh =>
                    have h2 := ih _ _ _ _ _ _ hh
                    split at h1
                    · cases h1
                    · cases h1; exact h2
                    · split at h1
                      · cases h1
                      · have h3 := ih _ _ _ _ _ _ h1
                        omega
              · split at h1
                · split at h1
                  · cases h1; exact ⟨by simp, by rw [zx_sz_push]; omega⟩
                  · cases h1
                · cases h1
theorem zx_c_len {oc : Nat} {st : List Value} {h : zx_H} {ins : Instr} {n : Nat} {r : Nat × List Value × List Value} (hc : zx_c oc st h ins n = some r) : n = 3 ∨ n = 5 := by
  unfold zx_c at hc
  split at hc
  · exact Or.inl rfl
  · exact Or.inl rfl
  · exact Or.inl rfl
  · exact Or.inr rfl
  · cases hc
end
section
/-! ===== a throw whose new cell is told: the kit's vx_throwS, vx_throwSW (pasted, as they may be), with the cell handed on ===== -/
section ZXT
variable {p : Program} {l : Launch} {e : Env} {R : Room} {s : State} {m : MethodId} {args : Array Value} {below : List Frame} {meth : Method} {c : Code} {H : Heap} {locs : List Loc} {cells slots : Nat} {Q : State → Prop}
variable {mc ms : Nat} {free : Addr → Prop} {A0 A1 : Nat → Prop} {H0 : Heap} {a : Array Value} {ls : Array Slot} {st0 rest : List Value}
variable {Qc : Array Value → State → Outcome → State → Prop} {XC : String → State → State → Prop}
theorem zx_throwS {cc : ByteArray} {pc : Nat} (hexec : p.tables.exec = Jvm.exec) (hb : c.code = cc) (hl : l.stackTraces = false) {own cls text : String} {names : List String} {ik is ic mc ms sa : Nat} {A : Nat → Prop}
    (hown : s.vm.findClass own = some m.cls) (hcls : Bundle.fit cls = true) (hnames : ∀ n ∈ names, Bundle.fit n = true)
    (hk : (Cond.classLink own ik cls).before args s = true) (hini : (Cond.initialized cls).before args s = true) (hstr : vk_R own is text sa s) (hat : ∀ w ∈ vx_atS own ic cls names, w.before args s = true)
    (hgood : ∀ w ∈ Cond.classLink own ik cls :: Cond.initialized cls :: vx_atS own ic cls names, vx_ot w = true)
    (hU : vx_Zq Bundle.tN "UNASSIGNED_STACK" Bundle.steD A s s.heap) (hN : vx_Zq Bundle.tN "SUPPRESSED_SENTINEL" Bundle.listD A s s.heap) (hS : va_S A s.heap H locs) (hsize : ls.size = c.maxLocals)
    (d0 : decode cc pc = .ok (.new ik, 3)) (d3 : decode cc (pc + 3) = .ok (.dup, 1)) (d4 : decode cc (pc + 4) = .ok (.ldc is, 2)) (d6 : decode cc (pc + 6) = .ok (.invokespecial ic, 3)) (d9 : decode cc (pc + 9) = .ok (.athrow, 1))
    (hout : ∀ x ∈ c.exceptionTable.toList, covers x (pc + 9) = false)
    (hRframes : names.length + 3 < R.frames) (hRlocals : (rest.map fun v => v.category).sum + (13 * (names.length + 1) + 43) ≤ R.locals) (hRcells : cells + 1 ≤ R.cells) (hRslots : slots + 6 ≤ R.slots) (hlocks : meth.locks = false)
    (hx : ∀ (t : State) (ce : Cell), s.vm.Alike t.vm → H.size ≤ t.heap.size → (∀ q : Nat, q < H.size → t.heap[q]? = H[q]?) → t.heap[H.size]? = some ce → ce.vm = .none → s.vm.findClass cls = some ce.cls → XC cls s t)
    (hf : ∀ z ∈ locs, free z.base) (hc : cells + 1 ≤ mc) (hs : slots + 6 ≤ ms) :
    W p l e R s m args below meth c H locs cells slots (vx_MQ below Qc XC args s mc ms free) (F0 m pc ls rest) := by
  intro T hT X
  have htr : e.platform.stackTraces = false := (show e.platform.stackTraces = l.stackTraces by rw [X.admits.platform]).trans hl
  have Y := vx_rebase X (R' := { frames := R.frames, locals := R.locals, cells := 1, slots := 6 }) (Nat.le_refl _) (Nat.le_refl _) hRcells hRslots
  obtain ⟨s', hA⟩ : ∃ z, z = (T.setVm s.vm).setFrames (.invoking m args :: below) := ⟨_, rfl⟩
  rw [← hA] at Y
  have hvm : s'.vm = s.vm := by rw [hA]; rfl
  have hhp : s'.heap = H := by rw [hA]; exact hT
  have hW0 : s.WarmedH s'.vm := by rw [hvm]; exact State.WarmedH.refl s
  have hat' : ∀ w ∈ vx_atS own ic cls names, w.before args s' = true := fun w hw => vx_ot_at hW0 hvm.symm (hgood w (List.mem_cons_of_mem _ (List.mem_cons_of_mem _ hw))) (hat w hw)
  have hk' : (Cond.classLink own ik cls).before args s' = true := vx_ot_at hW0 hvm.symm (hgood _ List.mem_cons_self) hk
  have hini' : (Cond.initialized cls).before args s' = true := vx_ot_at hW0 hvm.symm (hgood _ (List.mem_cons_of_mem _ List.mem_cons_self)) hini
  have hU' : vx_Zq Bundle.tN "UNASSIGNED_STACK" Bundle.steD A s' s'.heap := by rw [hhp]; exact vx_Zq.moved hW0.alike (hU.kept hS.2.1)
  have hN' : vx_Zq Bundle.tN "SUPPRESSED_SENTINEL" Bundle.listD A s' s'.heap := by rw [hhp]; exact vx_Zq.moved hW0.alike (hN.kept hS.2.1)
  have h : ∀ w ∈ Bundle.ownAtoms own ic cls names, w.before args s' = true := vx_own hat' (vx_isRefq hU'.1) (vx_isRefq hN'.1) hU'.2.word hN'.2.word
  have hown' : s'.vm.findClass own = some m.cls := by rw [hvm]; exact hown
  have hins : (Cond.instantiable cls 6).before args s' = true := h _ (by simp [Bundle.ownAtoms])
  obtain ⟨vm₁, cX, kX, hfX, hkX, -, -, X₁, st1⟩ := Y.newCold hexec (own := own) (C := cls) (index := ik) (n := 6) hown' hk' hins hini'
    (g := F0 m pc ls rest) rfl (by rw [hb]; exact d0) (Nat.le_refl _) (Nat.le_refl _)
  generalize hT1 : (T.setVm vm₁).pushCell { cls := cX, slots := kX.instanceTypes.map defaultValue, vm := .none } = T1 at X₁ st1
  have hcat : (Value.ref T.heap.size).category = 1 := rfl
  have hcellA : T1.heap[T.heap.size]? = some (freshCell cX kX) := by rw [← hT1]; exact State.heap_pushCell_size _ _
  have d3' : decode c.code (pc + 3) = .ok (.dup, 1) := by rw [hb]; exact d3
  have d4' : decode c.code (pc + 4) = .ok (.ldc is, 2) := by rw [hb]; exact d4
  have hstr' : vk_R own is text sa s' := vk_R.warm hW0 hstr
  obtain ⟨U, hsteps, hrun, hend, hW, hsame, ce, hce, hO⟩ := X₁.ctorThrowS hexec htr (own := own) (cls := cls) (names := names) (ic := ic) hown' hcls hnames h (fun x hx => nomatch hx) hfX hkX hcellA (by rw [hhp, hT]; exact Nat.le_refl _) (msg := .ref sa) rfl
    (g := { method := m, pc := pc + 6, locals := ls, stack := .ref sa :: .ref T.heap.size :: .ref T.heap.size :: rest, locked := none }) rfl hsize rfl rfl (rest := rest) rfl
    (by rw [hb]; exact d6) (by rw [hb]; exact d9) hout hRframes (by simp only [List.map_cons, List.sum_cons, hcat]; omega) hlocks
  obtain ⟨f1, f2⟩ := vx_frame hsame
  rw [hhp] at f1 f2
  have hWs : s.WarmedH U.vm := State.WarmedH.trans hW0 hW
  have hcl : s.vm.findClass cls = some ce.cls := by
    have h9 := hO.cls
    rw [hvm] at h9
    exact h9
  have hall : s.sameButNew ({ U with vm := s.vm } : State) locs mc ms := by
    subst hA
    obtain ⟨e1, e2⟩ := hsame
    rw [State.setFrames_setFrames] at e1
    have h2 : (T.setVm s.vm).sameButNew ({ U with vm := s.vm } : State) [] (0 + 1) (0 + 6) := ⟨e1, e2⟩
    have h3 := X.same.trans h2
    rw [List.append_nil] at h3
    exact h3.mono hc hs
  refine ⟨U, ?_, .threw T.heap.size, hrun, hend, Or.inr ⟨T.heap.size, rfl, cls, ce, locs, hx U ce hWs.alike f1 (fun q hq => f2 q hq (fun z hz => nomatch hz)) (by rw [← hT]; exact hce) hO.vm hcl, hce, hO.vm, hcl, hWs, hall, hf⟩⟩
  refine st1 _ ?_
  show Steps p.tables e below (T1.setTop { method := m, pc := pc + 3, locals := ls, stack := .ref T.heap.size :: rest, locked := none }) _
  jvm_step X₁.here [X₁.here.top, hexec, d3', Value.category]
  exact X₁.ldcString hexec (own := own) (text := text) (index := is) (a := sa) hown' hstr'.1 hstr'.2
    (g := { method := m, pc := pc + 4, locals := ls, stack := .ref T.heap.size :: .ref T.heap.size :: rest, locked := none }) rfl d4' _ hsteps
theorem zx_throwSW {cc : ByteArray} {pc : Nat} (hexec : p.tables.exec = Jvm.exec) (hb : c.code = cc) (hl : l.stackTraces = false) {own cls text : String} {names : List String} {ik is ic mc ms sa : Nat} {A : Nat → Prop}
    (hown : s.vm.findClass own = some m.cls) (hcls : Bundle.fit cls = true) (hnames : ∀ n ∈ names, Bundle.fit n = true)
    (hk : (Cond.classLink own ik cls).before args s = true) (hini : (Cond.initialized cls).before args s = true) (hstr : vk_R own is text sa s) (hat : ∀ w ∈ vx_atS own ic cls names, w.before args s = true)
    (hgood : ∀ w ∈ Cond.classLink own ik cls :: Cond.initialized cls :: vx_atS own ic cls names, vx_ot w = true)
    (hU : vx_Zq Bundle.tN "UNASSIGNED_STACK" Bundle.steD A s s.heap) (hN : vx_Zq Bundle.tN "SUPPRESSED_SENTINEL" Bundle.listD A s s.heap) (hS : va_S A s.heap H locs) (hsize : ls.size = c.maxLocals)
    (d0 : decode cc pc = .ok (.new ik, 3)) (d3 : decode cc (pc + 3) = .ok (.dup, 1)) (d4 : decode cc (pc + 4) = .ok (.ldc_w is, 3)) (d7 : decode cc (pc + 7) = .ok (.invokespecial ic, 3)) (d10 : decode cc (pc + 10) = .ok (.athrow, 1))
    (hout : ∀ x ∈ c.exceptionTable.toList, covers x (pc + 10) = false)
    (hRframes : names.length + 3 < R.frames) (hRlocals : (rest.map fun v => v.category).sum + (13 * (names.length + 1) + 43) ≤ R.locals) (hRcells : cells + 1 ≤ R.cells) (hRslots : slots + 6 ≤ R.slots) (hlocks : meth.locks = false)
    (hx : ∀ (t : State) (ce : Cell), s.vm.Alike t.vm → H.size ≤ t.heap.size → (∀ q : Nat, q < H.size → t.heap[q]? = H[q]?) → t.heap[H.size]? = some ce → ce.vm = .none → s.vm.findClass cls = some ce.cls → XC cls s t)
    (hf : ∀ z ∈ locs, free z.base) (hc : cells + 1 ≤ mc) (hs : slots + 6 ≤ ms) :
    W p l e R s m args below meth c H locs cells slots (vx_MQ below Qc XC args s mc ms free) (F0 m pc ls rest) := by
  intro T hT X
  have htr : e.platform.stackTraces = false := (show e.platform.stackTraces = l.stackTraces by rw [X.admits.platform]).trans hl
  have Y := vx_rebase X (R' := { frames := R.frames, locals := R.locals, cells := 1, slots := 6 }) (Nat.le_refl _) (Nat.le_refl _) hRcells hRslots
  obtain ⟨s', hA⟩ : ∃ z, z = (T.setVm s.vm).setFrames (.invoking m args :: below) := ⟨_, rfl⟩
  rw [← hA] at Y
  have hvm : s'.vm = s.vm := by rw [hA]; rfl
  have hhp : s'.heap = H := by rw [hA]; exact hT
  have hW0 : s.WarmedH s'.vm := by rw [hvm]; exact State.WarmedH.refl s
  have hat' : ∀ w ∈ vx_atS own ic cls names, w.before args s' = true := fun w hw => vx_ot_at hW0 hvm.symm (hgood w (List.mem_cons_of_mem _ (List.mem_cons_of_mem _ hw))) (hat w hw)
  have hk' : (Cond.classLink own ik cls).before args s' = true := vx_ot_at hW0 hvm.symm (hgood _ List.mem_cons_self) hk
  have hini' : (Cond.initialized cls).before args s' = true := vx_ot_at hW0 hvm.symm (hgood _ (List.mem_cons_of_mem _ List.mem_cons_self)) hini
  have hU' : vx_Zq Bundle.tN "UNASSIGNED_STACK" Bundle.steD A s' s'.heap := by rw [hhp]; exact vx_Zq.moved hW0.alike (hU.kept hS.2.1)
  have hN' : vx_Zq Bundle.tN "SUPPRESSED_SENTINEL" Bundle.listD A s' s'.heap := by rw [hhp]; exact vx_Zq.moved hW0.alike (hN.kept hS.2.1)
  have h : ∀ w ∈ Bundle.ownAtoms own ic cls names, w.before args s' = true := vx_own hat' (vx_isRefq hU'.1) (vx_isRefq hN'.1) hU'.2.word hN'.2.word
  have hown' : s'.vm.findClass own = some m.cls := by rw [hvm]; exact hown
  have hins : (Cond.instantiable cls 6).before args s' = true := h _ (by simp [Bundle.ownAtoms])
  obtain ⟨vm₁, cX, kX, hfX, hkX, -, -, X₁, st1⟩ := Y.newCold hexec (own := own) (C := cls) (index := ik) (n := 6) hown' hk' hins hini'
    (g := F0 m pc ls rest) rfl (by rw [hb]; exact d0) (Nat.le_refl _) (Nat.le_refl _)
  generalize hT1 : (T.setVm vm₁).pushCell { cls := cX, slots := kX.instanceTypes.map defaultValue, vm := .none } = T1 at X₁ st1
  have hcat : (Value.ref T.heap.size).category = 1 := rfl
  have hcellA : T1.heap[T.heap.size]? = some (freshCell cX kX) := by rw [← hT1]; exact State.heap_pushCell_size _ _
  have d3' : decode c.code (pc + 3) = .ok (.dup, 1) := by rw [hb]; exact d3
  have d4' : decode c.code (pc + 4) = .ok (.ldc_w is, 3) := by rw [hb]; exact d4
  have hstr' : vk_R own is text sa s' := vk_R.warm hW0 hstr
  obtain ⟨U, hsteps, hrun, hend, hW, hsame, ce, hce, hO⟩ := X₁.ctorThrowS hexec htr (own := own) (cls := cls) (names := names) (ic := ic) hown' hcls hnames h (fun x hx => nomatch hx) hfX hkX hcellA (by rw [hhp, hT]; exact Nat.le_refl _) (msg := .ref sa) rfl
    (g := { method := m, pc := pc + 7, locals := ls, stack := .ref sa :: .ref T.heap.size :: .ref T.heap.size :: rest, locked := none }) rfl hsize rfl rfl (rest := rest) rfl
    (by rw [hb]; exact d7) (by rw [hb]; exact d10) hout hRframes (by simp only [List.map_cons, List.sum_cons, hcat]; omega) hlocks
  obtain ⟨f1, f2⟩ := vx_frame hsame
  rw [hhp] at f1 f2
  have hWs : s.WarmedH U.vm := State.WarmedH.trans hW0 hW
  have hcl : s.vm.findClass cls = some ce.cls := by
    have h9 := hO.cls
    rw [hvm] at h9
    exact h9
  have hall : s.sameButNew ({ U with vm := s.vm } : State) locs mc ms := by
    subst hA
    obtain ⟨e1, e2⟩ := hsame
    rw [State.setFrames_setFrames] at e1
    have h2 : (T.setVm s.vm).sameButNew ({ U with vm := s.vm } : State) [] (0 + 1) (0 + 6) := ⟨e1, e2⟩
    have h3 := X.same.trans h2
    rw [List.append_nil] at h3
    exact h3.mono hc hs
  refine ⟨U, ?_, .threw T.heap.size, hrun, hend, Or.inr ⟨T.heap.size, rfl, cls, ce, locs, hx U ce hWs.alike f1 (fun q hq => f2 q hq (fun z hz => nomatch hz)) (by rw [← hT]; exact hce) hO.vm hcl, hce, hO.vm, hcl, hWs, hall, hf⟩⟩
  refine st1 _ ?_
  show Steps p.tables e below (T1.setTop { method := m, pc := pc + 3, locals := ls, stack := .ref T.heap.size :: rest, locked := none }) _
  jvm_step X₁.here [X₁.here.top, hexec, d3', Value.category]
  exact X₁.ldcStringW hexec (own := own) (text := text) (index := is) (a := sa) hown' hstr'.1 hstr'.2
    (g := { method := m, pc := pc + 4, locals := ls, stack := .ref T.heap.size :: .ref T.heap.size :: rest, locked := none }) rfl d4' _ hsteps
end ZXT
/-! ===== what a method asks of its start, and gives at its end ===== -/
section ZXK
variable (D : va_G) (dA : Nat → ClassId) (B : Nat) (a : Nat → Nat) (b : Nat) (sc : (Nat × (Nat → Int32)) × Bool)
def zx_KK (s : State) : Prop := (∀ w ∈ zt_nw, va_Nw w s) ∧ va_K D zt_cl (zx_tys dA) s ∧ zx_K2 s
def zx_HH (s : State) (H : Heap) : Prop := va_X b sc.1.1 sc.1.2 s H ∧ zx_H2 B a sc.2 s H
theorem zx_xe_go {B : Nat} {a : Nat → Nat} {s U : State} {H H1 : Heap} {k : Nat} {q : FieldType × zx_E} (hW : s.WarmedH U.vm) (hq : ∀ q : Nat, q < H.size → ¬ B ≤ q → H1[q]? = H[q]?) (h : zx_xe B a s H k q) : zx_xe B a U H1 k q := by
  unfold zx_xe at h ⊢
  split at h
  · exact va_T.moved hW.alike (va_T.kept h hq)
  · exact va_T.moved hW.alike (va_T.kept h hq)
  · refine ⟨va_O.moved hW.alike (va_O.kept h.1 hq), ?_⟩
    rcases h.2 with h9 | ⟨r, h1, h2, h3⟩
    · exact Or.inl h9
    · exact Or.inr ⟨r, h1, h2, fun i v hi hv => ⟨(h3 i v hi hv).1, va_OF.moved hW.alike (va_OF.kept (h3 i v hi hv).2 hq)⟩⟩
  · exact h.elim
theorem zx_XF_go {B : Nat} {a : Nat → Nat} {nf : Bool} {s U : State} {H H1 : Heap} (hW : s.WarmedH U.vm) (hq : ∀ q : Nat, q < H.size → ¬ B ≤ q → H1[q]? = H[q]?) (h : zx_XF B a nf s H) : zx_XF B a nf U H1 := by
  obtain ⟨h1, h2, h3, h4, h5⟩ := h
  exact ⟨fun j q hj => zx_xe_go hW hq (h1 j q hj), fun x e v he hv => va_Z.moved hW.alike (va_Z.kept (h2 x e v he hv) hq), fun e he => vk_R.warm hW (h3 e he), h4, fun e he q9 hq9 => va_Fw.moved (by
    obtain ⟨_, _, _, _, _, _, _, _, _, _, _, _, _, _, _, _, h9, _⟩ := zt_ift_ok e he
    exact h9) hW.alike (h5 e he q9 hq9)⟩
theorem zx_KK_warm {s U : State} (hW : s.WarmedH U.vm) (h : zx_KK D dA s) : zx_KK D dA U := by
  obtain ⟨h1, h2, h3, h4, h5⟩ := h
  refine ⟨fun w hw => ?_, va_K.moved hW.alike h2, fun C hC => va_AO.moved hW.alike (h3 C hC), fun own i tx hw => ?_, fun c d r1 r2 hc hd hcd hr1 hr2 => va_Nc.moved hW.alike (h5 c d r1 r2 hc hd hcd hr1 hr2)⟩
  · have hk := (List.mem_filter.mp hw).2
    have h6 := h1 w hw
    cases w with
    | fieldLinkNest _ _ _ _ _ _ => exact va_Nw.warmF hW h6
    | methodLinkNest _ _ _ _ => exact va_Nw.warmM hW h6
    | declares _ => exact va_Nw.warmD hW h6
    | castable _ _ => exact va_Nw.warmC hW h6
    | _ => cases hk
  · obtain ⟨sa, hsa⟩ := h4 own i tx hw
    exact ⟨sa, vk_R.warm hW hsa⟩
theorem zx_HH_go {s U : State} {H H1 : Heap} (hW : s.WarmedH U.vm) (hb : b < B) (hbl : b < H.size) (hq : ∀ q : Nat, q < H.size → ¬ B ≤ q → H1[q]? = H[q]?) (h : zx_HH B a b sc s H) : zx_HH B a b sc U H1 :=
  ⟨va_X.moved hW.alike (va_X.kept h.1 (hq b hbl (by omega))), zx_XF_go hW hq h.2.1, vx_Zq.moved hW.alike (vx_Zq.kept h.2.2.1 hq), vx_Zq.moved hW.alike (vx_Zq.kept h.2.2.2 hq)⟩
def zx_Pc (h : zx_H) (as : List Value) : Array Value → State → Prop := va_Pc (as.map (zx_v a)) (fun U => U.heap.size = B + h.length ∧ va_P D zt_cl (zx_w dA B a h) U.heap ∧ zx_KK D dA U ∧ zx_HH B a b sc U U.heap ∧ h.length ≤ zx_lim)
def zx_Qc (o : zx_O) (h' : zx_H) : Array Value → State → Outcome → State → Prop := fun _ st oc t => (∃ v, o = .inl v ∧ oc = .returned (v.map (zx_v a))) ∧ va_P D zt_cl (zx_w dA B a h') t.heap ∧ va_F (fun q => B ≤ q) st t ∧ h'.length ≤ zx_lim
def zx_XC (o : zx_O) (h' : zx_H) : String → State → State → Prop := fun E st t => (∃ ci r, o = .inr ci ∧ zt_x0 ≤ ci ∧ zt_cl[ci]? = some r ∧ r.1 = E) ∧ va_P D zt_cl (zx_w dA B a h') t.heap ∧ va_F (fun q => B ≤ q) st t ∧ h'.length ≤ zx_lim
theorem zx_Pc_blind (h : zx_H) (as : List Value) : FrameBlind (zx_Pc D dA B a b sc h as) := by
  intro av U g mk hp
  obtain ⟨h1, h2, h3, h4, h5, h6⟩ := hp
  have hW : U.WarmedH (U.calling g mk av).vm := State.WarmedH.refl U
  refine ⟨h1, h2, h3, zx_KK_warm D dA hW h4, ?_, h6⟩
  exact ⟨va_X.moved hW.alike h5.1, zx_XF_go hW (fun _ _ _ => rfl) h5.2.1, vx_Zq.moved hW.alike h5.2.2.1, vx_Zq.moved hW.alike h5.2.2.2⟩
end ZXK
/-! ===== handlers ===== -/
section ZXHD
variable {p : Program} {l : Launch} {e : Env} {R : Room} {s : State} {m : MethodId} {args : Array Value} {below : List Frame} {meth : Method} {c : Code} {H : Heap} {locs : List Loc} {cells slots : Nat} {Q : State → Prop}
def zx_ps (own E : String) (pc : Nat) (args : Array Value) (s : State) (z : ExceptionTableEntry) : Prop := covers z pc = false ∨ (z.catchType ≠ 0 ∧ ∃ nm : String, (Cond.classLink own z.catchType nm).before args s = true ∧ va_Nc E nm s)
theorem zx_hd_ok {oc pc ci : Nat} {own : String} {r : vw_C} (hon : zt_on[oc]? = some own) (hts : ∀ w ∈ zt_good, w.before args s = true) (hK2 : zx_K2 s) (hr : zt_cl[ci]? = some r) (hci : zt_x0 ≤ ci) :
    ∀ (hh : List (Nat × Nat × Nat × Nat)) (res : Option Nat), zx_hd oc pc ci hh = some res →
      (res = none ∧ ∀ z ∈ tableOf hh, zx_ps own r.1 pc args s z) ∨ (∃ hp pre x suf, res = some hp ∧ tableOf hh = pre ++ x :: suf ∧ (∀ z ∈ pre, zx_ps own r.1 pc args s z) ∧ covers x pc = true ∧ x.catchType ≠ 0 ∧ x.handlerPc = hp ∧ (Cond.classLink own x.catchType r.1).before args s = true) := by
  intro hh
  induction hh with
  | nil => intro res h; cases h; exact Or.inl ⟨rfl, fun z hz => nomatch hz⟩
  | cons q hh ih =>
    obtain ⟨s0, e0, hp, ct⟩ := q
    intro res h
    have key : ∀ hpass : zx_ps own r.1 pc args s ⟨s0, e0, hp, ct⟩, zx_hd oc pc ci hh = some res → (res = none ∧ ∀ z ∈ tableOf ((s0, e0, hp, ct) :: hh), zx_ps own r.1 pc args s z) ∨ (∃ hp' pre x suf, res = some hp' ∧ tableOf ((s0, e0, hp, ct) :: hh) = pre ++ x :: suf ∧ (∀ z ∈ pre, zx_ps own r.1 pc args s z) ∧ covers x pc = true ∧ x.catchType ≠ 0 ∧ x.handlerPc = hp' ∧ (Cond.classLink own x.catchType r.1).before args s = true) := by
      intro hpass h9
      rcases ih res h9 with ⟨h1, h2⟩ | ⟨hp', pre, x, suf, h1, h2, h3, h4⟩
      · exact Or.inl ⟨h1, fun z hz => by
          rcases List.mem_cons.mp hz with hz | hz
          · rw [hz]; exact hpass
          · exact h2 z hz⟩
      · refine Or.inr ⟨hp', ⟨s0, e0, hp, ct⟩ :: pre, x, suf, h1, ?_, fun z hz => ?_, h4⟩
        · show _ :: tableOf hh = _
          rw [h2]; rfl
        · rcases List.mem_cons.mp hz with hz | hz
          · rw [hz]; exact hpass
          · exact h3 z hz
    unfold zx_hd at h
    split at h
    · next hcov =>
      split at h
      · next kd cj y hw hpl =>
        split at h
        · next hc =>
          obtain ⟨rfl, hcj, h999, hct⟩ := hc
          obtain ⟨C0, hw2, hC, -⟩ := zx_pool_ok hon hpl
          have hC2 : (zt_cl[cj]?).map (·.1) = some C0 := by
            rcases hC with h9 | h9
            · exact absurd h9 h999
            · exact h9
          simp only [Option.map_eq_some_iff] at hC2
          obtain ⟨r2, hr2, rfl⟩ := hC2
          split at h
          · next hE =>
            subst hE
            cases h
            cases Option.some.inj (hr.symm.trans hr2)
            exact Or.inr ⟨hp, [], ⟨s0, e0, hp, ct⟩, tableOf hh, rfl, rfl, fun z hz => (nomatch hz), by simp [covers, hcov], hct, rfl, hts _ hw2⟩
          · next hE =>
            exact key (Or.inr ⟨hct, r2.1, hts _ hw2, hK2.2.2 ci cj r r2 hci hcj (fun z => hE z.symm) hr hr2⟩) h
        · cases h
      · cases h
    · next hcov => exact key (Or.inl (by simp only [covers]; simpa using hcov)) h
end ZXHD
end
section
/-! ===== a run of the evaluator is a walk of the machine ===== -/
theorem zx_args_map (a : Nat → Nat) : ∀ (as : List Value) (i : Nat), lv_args i (as.map (zx_v a)) = zx_l a (lv_args i as)
  | [], i => rfl
  | v :: as, i => by
    simp only [List.map_cons, lv_args, zx_cat, zx_args_map a as]
theorem zx_lg_map (a : Nat → Nat) (as : List Value) : (lg_sl (as.map (zx_v a))).length = (lg_sl as).length := by
  induction as with
  | nil => rfl
  | cons v as ih =>
    simp only [lg_sl, List.map_cons, List.flatMap_cons, List.length_append, zx_cat] at ih ⊢
    rw [ih]
    split <;> rfl
def zx_ws (y : MethodName) (cc : ByteArray) (nL : Nat) (ret : Option FieldType) (hh : List (Nat × Nat × Nat × Nat)) : List Cond := (if hh = [] then Cond.code y cc nL ret else Cond.codeWith y cc nL ret hh) :: zt_good
def zx_rm (d mc ms : Nat) : Room := { frames := 12 + d, cells := mc, slots := ms, locals := 150 + 60 * d }
/-- a call of k bytes, seen from its caller: it comes back with a value, or throws -/
def zx_RN (k : Nat) (p : Program) (l : Launch) (e : Env) (R : Room) (s : State) (m : MethodId) (args : Array Value) (below : List Frame) (meth : Method) (c : Code) (H : Heap) (locs : List Loc) (cells slots mc ms : Nat) (g : JFrame) (rest : List Value) (Qa : State → Outcome → State → Prop) (XC : String → State → State → Prop) (free : Addr → Prop) : Prop :=
  ∀ T : State, T.heap = H → Stand p l e R s m args below meth c T locs cells slots →
    (∃ (v : Option Value) (st₀ t T' : State) (L : List Loc), st₀.heap = H ∧ Stand p l e R s m args below meth c T' (locs ++ L) (cells + mc) (slots + ms) ∧ (∀ q ∈ L, free q.base) ∧ T'.heap = t.heap ∧ T'.vm = t.vm ∧ Qa st₀ (.returned v) t ∧
      Goes p e below T g T' { g with pc := g.pc + k, stack := v.toList ++ rest }) ∨
    (∃ (q : Addr) (st₀ t T' : State) (L : List Loc) (E : String) (ce : Cell), st₀.heap = H ∧ Stand p l e R s m args below meth c T' (locs ++ L) (cells + mc) (slots + ms) ∧ (∀ z ∈ L, free z.base) ∧ T'.heap = t.heap ∧ T'.vm = t.vm ∧ XC E st₀ t ∧ t.heap[q]? = some ce ∧ ce.vm = .none ∧ s.vm.findClass E = some ce.cls ∧
      Steps p.tables e below (T.setTop g) ((T'.setTop { g with stack := rest }).pushFrame (.throwing q)))
section ZXSND
variable {p : Program} {l : Launch} {e : Env} {R : Room} {s : State} {m : MethodId} {args : Array Value} {below : List Frame} {meth : Method} {c : Code} {H : Heap} {locs : List Loc} {cells slots : Nat} {Q : State → Prop} {cc : ByteArray} {pc nL : Nat} {ls : Array Slot} {a : Nat → Nat}
variable {D : va_G} {dA : Nat → ClassId} {B b n0 z0 oc : Nat} {own : String} {ini : Bool} {sc : (Nat × (Nat → Int32)) × Bool} {h h1 : zx_H}
theorem zx_after {kl : Nat} {o1 : zx_O} {mC sC : Nat} {st rest : List Value} {av : Array Value} (hr : zx_RN kl p l e R s m args below meth c H locs cells slots mC sC (F0 m pc ls (zx_st a st)) (zx_st a rest) (zx_Qc D dA B a o1 h1 av) (zx_XC D dA B a o1 h1) (fun q => B ≤ q)) (hS : zx_S D dA B a n0 z0 s h H locs cells slots) (hmc : h1.length = h.length + mC) (hms : zx_sz h1 = zx_sz h + sC)
    (kk : ∀ v H1 locs1, o1 = .inl v → zx_S D dA B a n0 z0 s h1 H1 locs1 (cells + mC) (slots + sC) → W p l e R s m args below meth c H1 locs1 (cells + mC) (slots + sC) Q (F0 m (pc + kl) ls (zx_st a (v.toList ++ rest))))
    (kx : ∀ (ci : Nat) (r : vw_C) H1 locs1 q ce, o1 = .inr ci → zt_x0 ≤ ci → zt_cl[ci]? = some r → zx_S D dA B a n0 z0 s h1 H1 locs1 (cells + mC) (slots + sC) → H1[q]? = some ce → ce.vm = .none → s.vm.findClass r.1 = some ce.cls → vx_W p l e R s m args below meth c H1 locs1 (cells + mC) (slots + sC) Q (F0 m pc ls (zx_st a rest)) q) :
    W p l e R s m args below meth c H locs cells slots Q (F0 m pc ls (zx_st a st)) := by
  intro T hT X
  obtain ⟨-, hV, hn, hs, hz, -⟩ := hS
  rcases hr T hT X with ⟨v, st₀, t, T', L, h0, X', hL, e1, e2, ⟨⟨v', ho, hv⟩, hP, hF, hlm⟩, hst⟩ | ⟨q, st₀, t, T', L, E, ce, h0, X', hL, e1, e2, ⟨⟨ci, r, ho, hci, hr9, rfl⟩, hP, hF, hlm⟩, hce, hcv, hcl, hst⟩
  · obtain ⟨k1, k2, k3⟩ := vx_keep h0 e1 hV (fun _ _ z => z) (fun _ z => z) hL hF
    have hv' : v = v'.map (zx_v a) := by cases hv; rfl
    subst hv'
    have hS1 : zx_S D dA B a n0 z0 s h1 T'.heap (locs ++ L) (cells + mC) (slots + sC) := ⟨by rw [e1]; exact hP, k3, by omega, hs, by omega, hlm⟩
    have hst' : zx_st a (v'.toList ++ rest) = (v'.map (zx_v a)).toList ++ zx_st a rest := by cases v' <;> simp [zx_st]
    have k9 := kk v' T'.heap (locs ++ L) ho hS1
    rw [hst'] at k9
    obtain ⟨t2, a1, b1⟩ := k9 T' rfl X'
    exact ⟨t2, hst t2 a1, b1⟩
  · obtain ⟨k1, k2, k3⟩ := vx_keep h0 e1 hV (fun _ _ z => z) (fun _ z => z) hL hF
    have hS1 : zx_S D dA B a n0 z0 s h1 T'.heap (locs ++ L) (cells + mC) (slots + sC) := ⟨by rw [e1]; exact hP, k3, by omega, hs, by omega, hlm⟩
    obtain ⟨t2, a1, b1⟩ := kx ci r T'.heap (locs ++ L) q ce ho hci hr9 hS1 (by rw [e1]; exact hce) hcv hcl T' rfl X'
    exact ⟨t2, hst.trans a1, b1⟩
end ZXSND
section ZXSND2
variable (D : va_G) (dA : Nat → ClassId) (B : Nat) (a : Nat → Nat) (b : Nat) (sc : (Nat × (Nat → Int32)) × Bool) (l : Launch)
def zx_SND (n : Nat) : Prop := ∀ (d mi : Nat) (f : zx_F) (h : zx_H) (o : zx_O) (h' : zx_H) (y : MethodName) (cc : ByteArray) (nL : Nat) (ret : Option FieldType) (hh : List (Nat × Nat × Nat × Nat)) (oc np hc hs hsel hi : Nat),
  zt_m[mi]? = some (y, cc, nL, ret, hh, oc, np, hc, hs, hsel, hi) → zx_run sc n d mi f h = some (o, h') →
  ∀ (p : Program) (e : Env) (R : Room) (s : State) (m : MethodId) (args : Array Value) (below : List Frame) (meth : Method) (c : Code) (H : Heap) (locs : List Loc) (cells slots : Nat) (ls : Array Slot) (n0 z0 mc ms : Nat) (own : String),
   zx_Cx D dA B a b sc oc own (hs == 2) cc nL p s m args meth c → meth.sig.returnType = ret → meth.locks = false → c.exceptionTable.toList = tableOf hh →
   zx_S D dA B a n0 z0 s h H locs cells slots → lv_has ls nL (zx_l a f.2.1) → 12 + d ≤ R.frames → 150 + 60 * d ≤ R.locals →
   h'.length = n0 + mc → zx_sz h' = z0 + ms → mc ≤ R.cells → ms ≤ R.slots →
   W p l e R s m args below meth c H locs cells slots (vx_MQ below (zx_Qc D dA B a o h') (zx_XC D dA B a o h') args s mc ms (fun q => B ≤ q)) (F0 m f.1 ls (zx_st a f.2.2))
set_option maxHeartbeats 1000000 in
theorem zx_met (ha : ∀ k, k < zx_lim → a k = B + k) (hab : a zx_lim = b) (hbB : b < B) {n : Nat} (hS : zx_SND D dA B a b sc l n) {d mj : Nat} {as : List Value} {h : zx_H} {o : zx_O} {h' : zx_H} {y : MethodName} {cc : ByteArray} {nL : Nat} {ret : Option FieldType} {hh : List (Nat × Nat × Nat × Nat)} {oc np hc hs hsel hi mc ms : Nat}
    (hq : zt_m[mj]? = some (y, cc, nL, ret, hh, oc, np, hc, hs, hsel, hi)) (hmj : 0 < mj) (hpl : zt_pln[oc]? = some true) (hrun : zx_run sc n d mj (0, lv_args 0 as, []) h = some (o, h')) (hfit : (lg_sl as).length ≤ nL) (hmc : h'.length = h.length + mc) (hms : zx_sz h' = zx_sz h + ms) :
    vx_Met l y (zx_ws y cc nL ret hh) (zx_rm d mc ms) (zx_Pc D dA B a b sc h as) (zx_Qc D dA B a o h') (zx_XC D dA B a o h') mc ms (fun q => B ≤ q) := by
  obtain ⟨mi, rfl⟩ : ∃ mi, mj = mi + 1 := ⟨mj - 1, by omega⟩
  obtain ⟨hw, hon, hini, hst, hsl, hpd, hnL, hnm⟩ := zt_m_ok hq
  have body : ∀ p e s m args below meth c s₁, BodyLoose p l y (headSpec (zx_ws y cc nL ret hh) (zx_rm d mc ms)) cc nL ret e s m args below meth c s₁ → c.maxLocals = nL → c.exceptionTable.toList = tableOf hh → zx_Pc D dA B a b sc h as args s →
      W p l e (headSpec (zx_ws y cc nL ret hh) (zx_rm d mc ms)).room s m args below meth c s.heap [] 0 0 (vx_MQ below (zx_Qc D dA B a o h') (zx_XC D dA B a o h') args s mc ms (fun q => B ≤ q)) (entryFrame m args nL) := by
    intro p e s m args below meth c s₁ Bd hml ht hv
    obtain ⟨rfl, hsz, hP, hKK, hHH, hlim⟩ := hv
    have hts0 := atoms_spec (ws := zx_ws y cc nL ret hh) Bd.pre
    have hts : ∀ w ∈ zt_good, w.before (as.map (zx_v a)).toArray s = true := fun w hw9 => hts0 w (List.mem_cons_of_mem _ hw9)
    have hown : s.vm.findClass y.cls = some m.cls := findClass_of_methodNamed Bd.named
    have hl := lv_entry (as.map (zx_v a)) (n := nL) (by rw [zx_lg_map]; exact hfit)
    rw [lg_entry_eq]
    rw [zx_args_map] at hl
    refine hS d (mi + 1) (0, lv_args 0 as, []) h o h' y cc nL ret hh oc np hc hs hsel hi hq hrun p e _ s m _ below meth c s.heap [] 0 0 _ h.length (zx_sz h) mc ms y.cls
      ⟨Bd.exec, Bd.bytes, hml, hown, hon, hts, hKK.1, hKK.2.1, fun h9 => ?_, ha, hab, hbB, by omega, hHH.1, hKK.2.2, hHH.2⟩ Bd.returns Bd.notSynchronized ht ⟨hP, va_S.rf, rfl, hsz, rfl, hlim⟩ hl (Nat.le_refl _) (Nat.le_refl _) hmc hms (Nat.le_refl _) (Nat.le_refl _)
    have h10 : hs = 2 := by simpa using h9
    exact (name_of_methodNamed Bd.named Bd.method).1.trans (hnm h10)
  have hpn := zt_pln_ok hon hpl
  by_cases hhe : hh = []
  · subst hhe
    refine vx_ofW (cc := cc) (maxL := nL) (ret := ret) hpn (by simp only [zx_ws, if_true]; rfl) ?_
    intro p e s m args below meth c s₁ Bd hml ht hv
    exact body p e s m args below meth c s₁ Bd hml (List.eq_nil_iff_forall_not_mem.mpr ht) hv
  · refine vx_ofWH (cc := cc) (maxL := nL) (ret := ret) (hh := hh) hpn (by simp only [zx_ws, if_neg hhe]; rfl) ?_
    intro p e s m args below meth c s₁ Bd hml hv
    refine body p e s m args below meth c s₁ Bd hml ?_ hv
    have h9 := atoms_spec (ws := zx_ws y cc nL ret hh) Bd.pre (Cond.codeWith y cc nL ret hh) (by simp [zx_ws, hhe])
    exact vx_table (x := y) Bd h9
end ZXSND2
end
section
section ZXC
variable {p : Program} {l : Launch} {e : Env} {R : Room} {s : State} {m : MethodId} {args : Array Value} {below : List Frame} {meth : Method} {c : Code} {H : Heap} {locs : List Loc} {cells slots : Nat} {Q : State → Prop} {cc : ByteArray} {pc nL : Nat} {ls : Array Slot} {lv : List (Nat × Value)} {st : List Value} {a : Nat → Nat}
variable {D : va_G} {dA : Nat → ClassId} {B b n0 z0 oc : Nat} {own : String} {ini : Bool} {sc : (Nat × (Nat → Int32)) × Bool} {h : zx_H}
theorem zx_ws_ok {y : MethodName} {cy : ByteArray} {nY : Nat} {ret : Option FieldType} {hh : List (Nat × Nat × Nat × Nat)} (hts : ∀ w ∈ zt_good, w.before args s = true) (hw : (if hh = [] then Cond.code y cy nY ret else Cond.codeWith y cy nY ret hh) ∈ zt_good) : ∀ w ∈ zx_ws y cy nY ret hh, ∀ (a' : Array Value) (U : State), s.WarmedH U.vm → w.before a' U = true := by
  have key : ∀ w ∈ zt_good, ∀ (a' : Array Value) (U : State), s.WarmedH U.vm → w.before a' U = true := fun w hw9 a' U hW => word_at hW (good_of_word (List.mem_filter.mp hw9).2) (hts w hw9)
  intro w h9
  rcases List.mem_cons.mp h9 with h9 | h9
  · rw [h9]; exact key _ hw
  · exact key w h9
theorem zx_stk {a : Nat → Nat} {st : List Value} (n : Nat) : zx_st a st = ((st.take n).reverse.map (zx_v a)).reverse ++ zx_st a (st.drop n) := by
  rw [List.map_reverse, List.reverse_reverse, ← List.map_append, List.take_append_drop]
theorem zx_hlen {y : MethodName} {np : Nat} {ret : Option FieldType} (hpd : (parseMethodDescriptor y.desc).map (fun d => (d.parameters.length, d.returnType)) = some (np, ret)) : ∀ sig, parseMethodDescriptor y.desc = some sig → np = sig.parameters.length := by
  intro sig h9
  rw [h9] at hpd
  simp only [Option.map_some, Option.some.injEq, Prod.mk.injEq] at hpd
  exact hpd.1.symm
set_option maxHeartbeats 2000000 in
theorem zx_call (ha : ∀ k, k < zx_lim → a k = B + k) (hab : a zx_lim = b) (hbB : b < B) (C : zx_Cx D dA B a b sc oc own ini cc nL p s m args meth c) (hS : zx_S D dA B a n0 z0 s h H locs cells slots) (hsz : H.size = B + h.length) {ins : Instr} {n : Nat} (hd : decode cc pc = .ok (ins, n)) {mj : Nat} {as rest : List Value} (hc : zx_c oc st h ins n = some (mj, as, rest)) (hl : lv_has ls nL (zx_l a lv))
    {k d' : Nat} {o1 : zx_O} {h1 : zx_H} (hSND : zx_SND D dA B a b sc l k) (hrun : zx_run sc k d' mj (0, lv_args 0 as, []) h = some (o1, h1)) (hRf : 12 + (d' + 1) ≤ R.frames) (hRl : 150 + 60 * (d' + 1) ≤ R.locals) {mC sC : Nat} (hmc : h1.length = h.length + mC) (hms : zx_sz h1 = zx_sz h + sC) (hf : cells + mC ≤ R.cells ∧ slots + sC ≤ R.slots) :
    ∃ av, zx_RN n p l e R s m args below meth c H locs cells slots mC sC (F0 m pc ls (zx_st a st)) (zx_st a rest) (zx_Qc D dA B a o1 h1 av) (zx_XC D dA B a o1 h1) (fun q => B ≤ q) := by
  have C0 := C
  obtain ⟨hx, hb, hml, hown, hon, hts, hnw, hK, hini, -, -, -, hBs, hX, hK2, hH2⟩ := C0
  have hKK : zx_KK D dA s := ⟨hnw, hK, hK2⟩
  have hHH : zx_HH B a b sc s s.heap := ⟨hX, hH2⟩
  have hPc : ∀ U : State, U.heap = H → s.WarmedH U.vm → zx_Pc D dA B a b sc h as (as.map (zx_v a)).toArray U := by
    intro U hU hW
    refine ⟨rfl, by rw [hU]; exact hsz, by rw [hU]; exact hS.1, zx_KK_warm D dA hW hKK, ?_, hS.2.2.2.2.2⟩
    rw [hU]
    exact zx_HH_go B a b sc hW hbB (Nat.lt_of_lt_of_le hbB hBs) hS.2.1.2.1 hHH
  have hcats : ∀ r : List Value, zx_cs r ≤ 8 → 2 * (F0 m pc ls (zx_st a st)).monitorRoom + ((zx_st a r).map fun v => v.category).sum ≤ 8 := by
    intro r hr
    rw [zx_cats]
    show 2 * 0 + _ ≤ 8
    unfold zx_cs at hr
    omega
  unfold zx_c at hc
  split at hc
  · -- invokestatic
    split at hc
    · next kd mx y0 w0 hpool =>
      split at hc
      · next y cy nY ret hh oj np h0 hs hsel hi hq =>
        split at hc
        · next hcond =>
          obtain ⟨hpl, hkd, rfl, hmj, hnp, hcs, hfit⟩ := hcond
          cases hc
          have hM := zx_met D dA B a b sc l ha hab hbB hSND hq hmj hpl hrun hfit hmc hms
          obtain ⟨mi, rfl⟩ : ∃ mi, mj = mi + 1 := ⟨mj - 1, by omega⟩
          obtain ⟨hw, hony, hiniy, hst, hsl, hpd, hnL, hnm⟩ := zt_m_ok hq
          have hony2 := zt_on_ok _ (List.mem_of_getElem? hony)
          simp only [if_true] at hst
          refine ⟨((st.take np).reverse.map (zx_v a)).toArray, ?_⟩
          have hn : ((st.take np).reverse.map (zx_v a)).length = np := by simp; omega
          rcases hkd with rfl | ⟨rfl, rfl⟩
          · obtain ⟨q9, hq9, hlk⟩ := zx_pool_ok hon hpool
            cases Option.some.inj (hq9.symm.trans hq)
            by_cases hhe : hh = []
            · subst hhe
              exact vx_runS (Ts := zt_good) (bytes := cy) (maxL := nY) (ret := ret) ⟨hx, hb, hml, hown, hts⟩ hM ⟨⟨rfl, rfl, by show 12 + d' + 1 ≤ _; omega, by show 8 + (nY + 11) + (150 + 60 * d') ≤ _; omega, zx_ws_ok hts hw, List.mem_cons_self, hts _ hw, hts _ hiniy, hony2.1, zx_hlen hpd, hts _ hlk⟩, hts _ hst⟩ ⟨zx_Pc_blind D dA B a b sc h _, hPc⟩ rfl hn hl.1 (zx_stk np) (hcats _ hcs) hd hf
            · rw [if_neg hhe] at hw
              exact vx_runSX (Ts := zt_good) (bytes := cy) (maxL := nY) (ret := ret) (hh := hh) ⟨hx, hb, hml, hown, hts⟩ hM ⟨⟨rfl, rfl, by show 12 + d' + 1 ≤ _; omega, by show 8 + (nY + 11) + (150 + 60 * d') ≤ _; omega, zx_ws_ok hts (by rw [if_neg hhe]; exact hw), by unfold zx_ws; rw [if_neg hhe]; exact List.mem_cons_self⟩, hts _ hw, hts _ hiniy, hony2.1, zx_hlen hpd, hts _ hlk, hts _ hst⟩ ⟨zx_Pc_blind D dA B a b sc h _, hPc⟩ rfl hn hl.1 (zx_stk np) (hcats _ hcs) hd hf
          · obtain ⟨q9, host, hq9, hlk⟩ := zx_pool_ok hon hpool
            cases Option.some.inj (hq9.symm.trans hq)
            exact vx_runSN (Ts := zt_good) (bytes := cy) (maxL := nY) (ret := ret) ⟨hx, hb, hml, hown, hts⟩ hM ⟨⟨⟨rfl, rfl, by show 12 + d' + 1 ≤ _; omega, by show 8 + (nY + 11) + (150 + 60 * d') ≤ _; omega, zx_ws_ok hts hw, List.mem_cons_self⟩, hts _ hw, hts _ hiniy, hony2.1, zx_hlen hpd, va_Nw.use rfl (hnw _ hlk)⟩, hts _ hst, trivial⟩ ⟨zx_Pc_blind D dA B a b sc h _, hPc⟩ rfl hn hl.1 (zx_stk np) (hcats _ hcs) hd hf
        · cases hc
      · cases hc
    · cases hc
  · -- invokevirtual
    split at hc
    · next kd mx y0 w0 hpool =>
      split at hc
      · next y cy nY ret hh oj np h0 hs hsel hi hq =>
        split at hc
        · next q rst hdrop =>
          split at hc
          · next ci fs hcell =>
            split at hc
            · next hcond =>
              obtain ⟨hpl, hkd, rfl, rfl, rfl, hmj, rfl, hcs, hfit⟩ := hcond
              cases hc
              have hM := zx_met D dA B a b sc l ha hab hbB hSND hq hmj hpl hrun hfit hmc hms
              obtain ⟨mi, rfl⟩ : ∃ mi, mj = mi + 1 := ⟨mj - 1, by omega⟩
              obtain ⟨hw, hony, hiniy, hst, hsl, hpd, hnL, hnm⟩ := zt_m_ok hq
              have hony2 := zt_on_ok _ (List.mem_of_getElem? hony)
              have hst : Cond.instanceMethod y ∈ zt_good := hst
              have hsl : Cond.selects y.cls y y ∈ zt_good := by
                rcases hsl with h9 | h9
                · exact absurd h9 (by decide)
                · exact h9
              have hnp : np < st.length := by
                have h9 := congrArg List.length hdrop
                simp only [List.length_drop, List.length_cons] at h9
                omega
              have hn : ((st.take np).reverse.map (zx_v a)).length = np := by simp; omega
              have hstk : (F0 m pc ls (zx_st a st)).stack = ((st.take np).reverse.map (zx_v a)).reverse ++ .ref (a q) :: zx_st a rest := by
                show zx_st a st = _
                rw [zx_stk np, hdrop]
                rfl
              obtain ⟨r, hr, hrC⟩ : ∃ r, zt_cl[ci]? = some r ∧ r.1 = y.cls := by
                have hl9 : ci < zt_cl.length := by
                  obtain ⟨r, h9, -⟩ := hS.1 _ _ (zx_w_get hcell)
                  exact (List.getElem?_eq_some_iff.mp h9).1
                exact ⟨_, List.getElem?_eq_getElem hl9, zt_on_cl hony (List.getElem?_eq_getElem hl9)⟩
              have hrecv := va_recv hK hS.1 hr (zx_w_get hcell)
              rw [← zx_S_q hS ha hcell, hrC] at hrecv
              refine ⟨(.ref (a q) :: (st.take np).reverse.map (zx_v a)).toArray, ?_⟩
              rcases hkd with rfl | rfl
              · obtain ⟨q9, hq9, hlk⟩ := zx_pool_ok hon hpool
                cases Option.some.inj (hq9.symm.trans hq)
                exact vx_runV (Ts := zt_good) (bytes := cy) (maxL := nY) (ret := ret) (C := y.cls) ⟨hx, hb, hml, hown, hts⟩ hM ⟨⟨rfl, rfl, by show 12 + d' + 1 ≤ _; omega, by show 8 + (nY + 11) + (150 + 60 * d') ≤ _; omega, zx_ws_ok hts hw, List.mem_cons_self, hts _ hw, hts _ hiniy, hony2.1, zx_hlen hpd, hts _ hlk⟩, hts _ hst, hts _ hsl⟩ ⟨zx_Pc_blind D dA B a b sc h _, hrecv, hPc⟩ rfl hn hl.1 hstk (hcats _ hcs) hd hf
              · obtain ⟨q9, host, hq9, hlk⟩ := zx_pool_ok hon hpool
                cases Option.some.inj (hq9.symm.trans hq)
                exact vx_runVN (Ts := zt_good) (bytes := cy) (maxL := nY) (ret := ret) (C := y.cls) ⟨hx, hb, hml, hown, hts⟩ hM ⟨⟨⟨rfl, rfl, by show 12 + d' + 1 ≤ _; omega, by show 8 + (nY + 11) + (150 + 60 * d') ≤ _; omega, zx_ws_ok hts hw, List.mem_cons_self⟩, hts _ hw, hts _ hiniy, hony2.1, zx_hlen hpd, va_Nw.use rfl (hnw _ hlk)⟩, hts _ hst, hts _ hsl⟩ ⟨zx_Pc_blind D dA B a b sc h _, hrecv, hPc⟩ rfl hn hl.1 hstk (hcats _ hcs) hd hf
            · cases hc
          · cases hc
        · cases hc
      · cases hc
    · cases hc
  · -- invokespecial
    split at hc
    · next kd mx y0 w0 hpool =>
      split at hc
      · next y cy nY ret hh oj np h0 hs hsel hi hq =>
        split at hc
        · next q rst hdrop =>
          split at hc
          · next hcond =>
            obtain ⟨hpl, hkd, rfl, rfl, rfl, hmj, hcs, hfit⟩ := hcond
            cases hc
            have hM := zx_met D dA B a b sc l ha hab hbB hSND hq hmj hpl hrun hfit hmc hms
            obtain ⟨mi, rfl⟩ : ∃ mi, mj = mi + 1 := ⟨mj - 1, by omega⟩
            obtain ⟨hw, hony, hiniy, hst, hsl, hpd, hnL, hnm⟩ := zt_m_ok hq
            have hony2 := zt_on_ok _ (List.mem_of_getElem? hony)
            have hst : Cond.instanceMethod y ∈ zt_good := hst
            have hnp : np < st.length := by
              have h9 := congrArg List.length hdrop
              simp only [List.length_drop, List.length_cons] at h9
              omega
            have hn : ((st.take np).reverse.map (zx_v a)).length = np := by simp; omega
            have hstk : (F0 m pc ls (zx_st a st)).stack = ((st.take np).reverse.map (zx_v a)).reverse ++ .ref (a q) :: zx_st a rest := by
              show zx_st a st = _
              rw [zx_stk np, hdrop]
              rfl
            refine ⟨(.ref (a q) :: (st.take np).reverse.map (zx_v a)).toArray, ?_⟩
            rcases hkd with rfl | rfl
            · obtain ⟨q9, hq9, hlk⟩ := zx_pool_ok hon hpool
              cases Option.some.inj (hq9.symm.trans hq)
              exact vx_runI (Ts := zt_good) (bytes := cy) (maxL := nY) ⟨hx, hb, hml, hown, hts⟩ hM ⟨⟨rfl, rfl, by show 12 + d' + 1 ≤ _; omega, by show 8 + (nY + 11) + (150 + 60 * d') ≤ _; omega, zx_ws_ok hts hw, List.mem_cons_self, hts _ hw, hts _ hiniy, hony2.1, zx_hlen hpd, hts _ hlk⟩, hnm rfl, hts _ hst⟩ ⟨zx_Pc_blind D dA B a b sc h _, hPc⟩ rfl hn hl.1 hstk (hcats _ hcs) hd hf
            · obtain ⟨q9, host, hq9, hlk⟩ := zx_pool_ok hon hpool
              cases Option.some.inj (hq9.symm.trans hq)
              exact vx_runIN (Ts := zt_good) (bytes := cy) (maxL := nY) ⟨hx, hb, hml, hown, hts⟩ hM ⟨⟨⟨rfl, rfl, by show 12 + d' + 1 ≤ _; omega, by show 8 + (nY + 11) + (150 + 60 * d') ≤ _; omega, zx_ws_ok hts hw, List.mem_cons_self⟩, hts _ hw, hts _ hiniy, hony2.1, zx_hlen hpd, va_Nw.use rfl (hnw _ hlk)⟩, hnm rfl, hts _ hst⟩ ⟨zx_Pc_blind D dA B a b sc h _, hPc⟩ rfl hn hl.1 hstk (hcats _ hcs) hd hf
          · cases hc
        · cases hc
      · cases hc
    · cases hc
  · -- invokeinterface
    split at hc
    · next mx y0 w0 hpool =>
      split at hc
      · next y cy nY ret hh oj np h0 hs hsel hi hq =>
        split at hc
        · next q rst hdrop =>
          split at hc
          · next ci fs hcell =>
            split at hc
            · next hcond =>
              obtain ⟨rfl, rfl, hpl, rfl, hcs, hfit, hift⟩ := hcond
              cases hc
              obtain ⟨x9, hx9, hlk⟩ := zx_pool_ok hon hpool
              have hmem : (x9, mj) ∈ zt_ift := List.mem_of_getElem? hx9
              obtain ⟨y2, cy2, nY2, ret2, oj2, np2, hsel2, hq2, hmj, hyC, hselw, hd1, hd2, hd3, hd4, hd5, hnx, hpx⟩ := zt_ift_ok _ hmem
              dsimp only at hq2 hselw hnx hpx hmj
              cases Option.some.inj (hq.symm.trans hq2)
              have hFw := hH2.1.2.2.2.2 _ hmem _ hq
              have hM := zx_met D dA B a b sc l ha hab hbB hSND hq hmj hpl hrun hfit hmc hms
              obtain ⟨mi, rfl⟩ : ∃ mi, mj = mi + 1 := ⟨mj - 1, by omega⟩
              obtain ⟨hw, hony, hiniy, hst, hsl, hpd, hnL, hnm⟩ := zt_m_ok hq
              have hst : Cond.instanceMethod y ∈ zt_good := hst
              have hnp : np < st.length := by
                have h9 := congrArg List.length hdrop
                simp only [List.length_drop, List.length_cons] at h9
                omega
              have hn : ((st.take np).reverse.map (zx_v a)).length = np := by simp; omega
              have hstk : (F0 m pc ls (zx_st a st)).stack = ((st.take np).reverse.map (zx_v a)).reverse ++ .ref (a q) :: zx_st a rest := by
                show zx_st a st = _
                rw [zx_stk np, hdrop]
                rfl
              obtain ⟨r, hr, hrC⟩ : ∃ r, zt_cl[ci]? = some r ∧ r.1 = y.cls := by
                have hl9 : ci < zt_cl.length := by
                  obtain ⟨r, h9, -⟩ := hS.1 _ _ (zx_w_get hcell)
                  exact (List.getElem?_eq_some_iff.mp h9).1
                exact ⟨_, List.getElem?_eq_getElem hl9, zt_on_cl hony (List.getElem?_eq_getElem hl9)⟩
              have hrecv := va_recv hK hS.1 hr (zx_w_get hcell)
              have hcat := (hK.1 ci r hr).2
              rw [hrC, hyC] at hcat
              rw [← zx_S_q hS ha hcell, hrC, hyC] at hrecv
              refine ⟨(.ref (a q) :: (st.take np).reverse.map (zx_v a)).toArray, ?_⟩
              exact vx_runF (Ts := zt_good) (bytes := cy) (maxL := nY) (ret := ret) (C := "java/util/ArrayList") hcat ⟨hx, hb, hml, hown, hts⟩ hM ⟨⟨rfl, rfl, by show 12 + d' + 1 ≤ _; omega, by show 8 + (nY + 11) + (150 + 60 * d') ≤ _; omega, zx_ws_ok hts hw, List.mem_cons_self⟩, hts _ hlk, va_any rfl hFw.1, va_any rfl hFw.2.1, hts _ hselw, hts _ hst, va_any rfl hFw.2.2.1, va_any rfl hFw.2.2.2.1, va_any rfl hFw.2.2.2.2, hts _ hiniy, hts _ hw, hnx, fun sig h9 => by rw [h9] at hpx; exact (Option.some.inj hpx).symm⟩ ⟨zx_Pc_blind D dA B a b sc h _, hrecv, hPc⟩ rfl hn hl.1 hstk (hcats _ hcs) hd hf
            · cases hc
          · cases hc
        · cases hc
      · cases hc
    · cases hc
  · cases hc
end ZXC
end
section
section ZXE
variable {p : Program} {l : Launch} {e : Env} {R : Room} {s : State} {m : MethodId} {args : Array Value} {below : List Frame} {meth : Method} {c : Code} {H : Heap} {locs : List Loc} {cells slots : Nat} {Q : State → Prop} {cc : ByteArray} {pc nL : Nat} {ls : Array Slot} {lv : List (Nat × Value)} {st : List Value} {a : Nat → Nat}
variable {D : va_G} {dA : Nat → ClassId} {B b n0 z0 oc : Nat} {own : String} {ini : Bool} {sc : (Nat × (Nat → Int32)) × Bool} {h : zx_H} {free : Addr → Prop}
theorem zx_rt_ok {Qc : Array Value → State → Outcome → State → Prop} {XC : String → State → State → Prop} (hx : p.tables.exec = Jvm.exec) (hb : c.code = cc) {ret : Option FieldType} (hr : meth.sig.returnType = ret) (hlocks : meth.locks = false) {ins : Instr} {n : Nat} (hd : decode cc pc = .ok (ins, n)) {v : Option Value} (hrt : zx_rt ret st ins n = some v)
    (hq : ∀ t : State, t.heap = H → s.WarmedH t.vm → Qc args s (.returned (v.map (zx_v a))) t) (hf : ∀ q ∈ locs, free q.base) : W p l e R s m args below meth c H locs cells slots (vx_MQ below Qc XC args s cells slots free) (F0 m pc ls (zx_st a st)) := by
  unfold zx_rt at hrt
  split at hrt
  · split at hrt
    · split at hrt
      · next hn => cases hrt; exact vx_ret (W.zret hx hb hr hn hq hf hd hlocks)
      · cases hrt
    · cases hrt
  · split at hrt
    · cases hrt; exact vx_ret (W.lret hx hb hr hq hf hd hlocks)
    · cases hrt
  · split at hrt
    · cases hrt; exact vx_ret (W.fret hx hb hr hq hf hd hlocks)
    · cases hrt
  · split at hrt
    · cases hrt; exact vx_ret (W.dret hx hb hr hq hf hd hlocks)
    · cases hrt
  · split at hrt
    · cases hrt; exact vx_ret (W.aret hx hb hr (Or.inl ⟨_, rfl⟩) (Or.inr ⟨_, rfl⟩) hq hf hd hlocks)
    · cases hrt; exact vx_ret (W.aret hx hb hr (Or.inr ⟨_, rfl⟩) (Or.inr ⟨_, rfl⟩) hq hf hd hlocks)
    · cases hrt; exact vx_ret (W.aret hx hb hr (Or.inl ⟨_, rfl⟩) (Or.inl rfl) hq hf hd hlocks)
    · cases hrt; exact vx_ret (W.aret hx hb hr (Or.inr ⟨_, rfl⟩) (Or.inl rfl) hq hf hd hlocks)
    · cases hrt
  · split at hrt
    · cases hrt; exact vx_ret (W.vret hx hb hr hq hf hd hlocks)
    · cases hrt
  · cases hrt
theorem zx_th_ok (hlt : l.stackTraces = false) (C : zx_Cx D dA B a b sc oc own ini cc nL p s m args meth c) (hS : zx_S D dA B a n0 z0 s h H locs cells slots) (hlocks : meth.locks = false) (htab : c.exceptionTable.toList = []) (hl : lv_has ls nL (zx_l a lv)) {ins : Instr} {n : Nat} (hd : decode cc pc = .ok (ins, n)) {ci : Nat} (hth : zx_th oc cc pc st ins n = some ci) (hlim : h.length < zx_lim)
    {mc ms : Nat} (hmc : h.length + 1 = n0 + mc) (hms : zx_sz h + zx_sz1 (.inr (ci, [])) = z0 + ms) (hmR : mc ≤ R.cells) (hsR : ms ≤ R.slots) (hRf : 12 ≤ R.frames) (hRl : 150 ≤ R.locals) :
    W p l e R s m args below meth c H locs cells slots (vx_MQ below (zx_Qc D dA B a (.inr ci) (h ++ [.inr (ci, [])])) (zx_XC D dA B a (.inr ci) (h ++ [.inr (ci, [])])) args s mc ms (fun q => B ≤ q)) (F0 m pc ls (zx_st a st)) := by
  have C0 := C
  obtain ⟨hx, hb, hml, hown, hon, hts, hnw, hK, hini, ha, hab, hbB, hBs, hX, hK2, hH2⟩ := C0
  have hS0 := hS
  obtain ⟨hP, hV, hn0, hs0, hz0, hlm⟩ := hS0
  have key : ∀ {ik i ic y w0 : Nat}, zx_pool oc ik = some (2, ci, y, w0) → zt_x0 ≤ ci → zx_cs st ≤ 8 → (oc, ic, ci) ∈ zt_exw → (zx_pool oc i).map (·.1) = some 13 →
      ∃ (r : vw_C) (tx : String) (sa : Nat), zt_cl[ci]? = some r ∧ Bundle.fit r.1 = true ∧ (Cond.classLink own ik r.1).before args s = true ∧ (Cond.initialized r.1).before args s = true ∧ vk_R own i tx sa s ∧ (∀ w ∈ vx_atS own ic r.1 ["java/lang/RuntimeException", "java/lang/Exception"], w.before args s = true) ∧
        (∀ w ∈ Cond.classLink own ik r.1 :: Cond.initialized r.1 :: vx_atS own ic r.1 ["java/lang/RuntimeException", "java/lang/Exception"], vx_ot w = true) ∧ zx_sz1 (.inr (ci, [])) = 6 ∧
        (∀ (t : State) (ce : Cell), s.vm.Alike t.vm → H.size ≤ t.heap.size → (∀ q : Nat, q < H.size → t.heap[q]? = H[q]?) → t.heap[H.size]? = some ce → ce.vm = .none → s.vm.findClass r.1 = some ce.cls → H.size = B + h.length → zx_XC D dA B a (.inr ci) (h ++ [.inr (ci, [])]) r.1 s t) := by
    intro ik i ic y w0 hpool hci hcs hex hstr
    obtain ⟨C0, hw, hC, -⟩ := zx_pool_ok hon hpool
    have hC2 : (zt_cl[ci]?).map (·.1) = some C0 := by
      rcases hC with h9 | h9
      · subst h9
        exact absurd hex (by simp [zt_exw])
      · exact h9
    simp only [Option.map_eq_some_iff] at hC2
    obtain ⟨r, hr, rfl⟩ := hC2
    obtain ⟨hwords, hfit, hot1, hot2⟩ := zt_exw_ok hon hr hex
    have hok := zt_cl_ok hr
    simp only [Option.map_eq_some_iff] at hstr
    obtain ⟨⟨k1, x1, y1, z1⟩, hp1, hk1⟩ := hstr
    dsimp only at hk1
    subst hk1
    obtain ⟨tx, htx, -⟩ := zx_pool_ok hon hp1
    obtain ⟨sa, hsa⟩ := hK2.2.1 own i tx htx
    have hsz := zt_xsz hr hci
    refine ⟨r, tx, sa, hr, hfit, hts _ hw, hts _ hok.2.2.2.2.1, hsa, fun w hw9 => ?_, fun w hw9 => ?_, hsz.2, fun t ce hal hz hq hce hcv hcl hHs => ⟨⟨ci, r, rfl, hci, hr, rfl⟩, ?_, ?_, ?_⟩⟩
    · obtain ⟨⟨h1, h2⟩, -⟩ := hwords w hw9
      rcases h2 with h2 | h2
      · exact hts _ (List.mem_filter.mpr ⟨h1, h2⟩)
      · have h3 := hnw _ (List.mem_filter.mpr ⟨h1, h2⟩)
        cases w with
        | fieldLinkNest _ _ _ _ _ _ => exact va_Nw.use rfl h3
        | methodLinkNest _ _ _ _ => exact va_Nw.use rfl h3
        | declares _ => exact va_Nw.use rfl h3
        | castable _ _ => exact va_Nw.use rfl h3
        | _ => cases h2
    · rcases List.mem_cons.mp hw9 with h9 | h9
      · rw [h9]; exact hot2 ik
      · rcases List.mem_cons.mp h9 with h9 | h9
        · rw [h9]; exact hot1
        · exact (hwords w h9).2
    · rw [zx_w_push]
      refine va_P.app (va_P.kept hP (fun k q hk => hq _ (hP k q hk).lt)) ?_
      intro k q hk
      match k, hk with
      | 0, hk =>
        cases hk
        refine ⟨r, hr, ce, ?_, ?_, hcv, fun k9 hk9 => ?_⟩
        · show t.heap[B + h.length]? = some ce
          rw [← hHs]; exact hce
        · have h8 := (hK.1 ci r hr).2.1
          rw [hcl] at h8
          exact (Option.some.inj h8)
        · rw [hsz.1] at hk9
          exact absurd hk9 (Nat.not_lt_zero _)
      | k + 1, hk => exact nomatch hk
    · exact ⟨Nat.le_trans hV.1 hz, fun q h1 h2 => by rw [hq q (Nat.lt_of_lt_of_le h1 hV.1)]; exact hV.2.1 q h1 h2⟩
    · simp; omega
  have hnames : ∀ n ∈ ["java/lang/RuntimeException", "java/lang/Exception"], Bundle.fit n = true := by decide +kernel
  intro T hT X
  have hHs := zx_S_size hS hT X
  unfold zx_th at hth
  split at hth
  · split at hth
    · next ci9 y9 w9 hpool =>
      split at hth
      · next hcond =>
        obtain ⟨hci, hcs⟩ := hcond
        have hcats : ((zx_st a st).map fun v => v.category).sum ≤ 8 := by rw [zx_cats]; exact hcs
        split at hth
        · next d3 d4 =>
          split at hth
          · next d6 d9 =>
            split at hth
            · next hex =>
              cases hth
              obtain ⟨r, tx, sa, hr, hfit, hk, hini9, hstr, hat, hgood, hsz6, hXC⟩ := key hpool hci hcs hex.1 hex.2
              exact zx_throwS hx hb hlt hown hfit hnames hk hini9 hstr hat hgood hH2.2.1 hH2.2.2 hV (by rw [hml]; exact hl.1) hd d3 d4 d6 d9 (by rw [htab]; exact fun x hx9 => nomatch hx9) (by show 2 + 3 < _; omega) (by show _ + (13 * 3 + 43) ≤ _; omega) (by omega) (by omega) hlocks (fun t ce h1 h2 h3 h4 h5 h6 => hXC t ce h1 h2 h3 h4 h5 h6 hHs) hV.2.2 (by omega) (by omega) T hT X
            · cases hth
          · cases hth
        · next d3 d4 =>
          split at hth
          · next d6 d9 =>
            split at hth
            · next hex =>
              cases hth
              obtain ⟨r, tx, sa, hr, hfit, hk, hini9, hstr, hat, hgood, hsz6, hXC⟩ := key hpool hci hcs hex.1 hex.2
              exact zx_throwSW hx hb hlt hown hfit hnames hk hini9 hstr hat hgood hH2.2.1 hH2.2.2 hV (by rw [hml]; exact hl.1) hd d3 d4 d6 d9 (by rw [htab]; exact fun x hx9 => nomatch hx9) (by show 2 + 3 < _; omega) (by show _ + (13 * 3 + 43) ≤ _; omega) (by omega) (by omega) hlocks (fun t ce h1 h2 h3 h4 h5 h6 => hXC t ce h1 h2 h3 h4 h5 h6 hHs) hV.2.2 (by omega) (by omega) T hT X
            · cases hth
          · cases hth
        · cases hth
      · cases hth
    · cases hth
  · cases hth
end ZXE
end
section
section ZXF
variable {p : Program} {l : Launch} {e : Env} {R : Room} {s : State} {m : MethodId} {args : Array Value} {below : List Frame} {meth : Method} {c : Code} {H : Heap} {locs : List Loc} {cells slots : Nat} {Q : State → Prop} {cc : ByteArray} {pc nL : Nat} {ls : Array Slot} {lv : List (Nat × Value)} {st : List Value} {a : Nat → Nat}
theorem zx_s1_tail (a : Nat → Nat) (i : Nat) (lv : List (Nat × Value)) : zx_l a (zx_s1 i .null lv).tail = (zx_l a lv).filter (fun q => !(q.1 == i) && !(q.1 + 1 == i && q.2.category == 2)) := by
  have h := zx_s1_map a i .null lv
  exact (List.tail_eq_of_cons_eq h).symm
/-- a handler's first row: the exception is put away, whichever it is -/
theorem zx_ca_ok (hx : p.tables.exec = Jvm.exec) (hb : c.code = cc) (hl : lv_has ls nL (zx_l a lv)) {hp : Nat} {f : zx_F} (hca : zx_ca cc nL hp lv = some f) (q : Nat)
    (k : ∀ ls', lv_has ls' nL (zx_l a f.2.1) → W p l e R s m args below meth c H locs cells slots Q (F0 m f.1 ls' (zx_st a f.2.2))) : W p l e R s m args below meth c H locs cells slots Q (F0 m hp ls [.ref q]) := by
  unfold zx_ca at hca
  split at hca
  · next kk hd =>
    split at hca
    · next hk =>
      cases hca
      refine lv_astore_n hx hb hd rfl hl hk rfl (fun ls' hl' => k ls' ⟨hl'.1, hl'.2.1, fun z hz => ?_⟩)
      rw [zx_s1_tail] at hz
      exact hl'.2.2 z (List.mem_cons_of_mem _ hz)
    · cases hca
  · next kk hd =>
    split at hca
    · next hk =>
      cases hca
      refine lv_astore hx hb hd hl hk rfl (fun ls' hl' => k ls' ⟨hl'.1, hl'.2.1, fun z hz => ?_⟩)
      rw [zx_s1_tail] at hz
      exact hl'.2.2 z (List.mem_cons_of_mem _ hz)
    · cases hca
  · cases hca
end ZXF
theorem zt_castself : ∀ (ci : Nat) (r : vw_C), zt_x0 ≤ ci → zt_cl[ci]? = some r → Cond.castable r.1 r.1 ∈ zt_nw := zt_cast
set_option maxHeartbeats 2000000 in
theorem zx_sound {D : va_G} {dA : Nat → ClassId} {B : Nat} {a : Nat → Nat} {b : Nat} {sc : (Nat × (Nat → Int32)) × Bool} {l : Launch} (hlt : l.stackTraces = false) (ha : ∀ k, k < zx_lim → a k = B + k) (hab : a zx_lim = b) (hbB : b < B) : ∀ n, zx_SND D dA B a b sc l n := by
  intro n
  induction n with
  | zero => intro d mi f h o h' y cc nL ret hh oc np hc hs hsel hi hq hrun; cases hrun
  | succ n ih =>
    intro d mi f h o h' y cc nL ret hh oc np hc hs hsel hi hq hrun p e R s m args below meth c H locs cells slots ls n0 z0 mc ms own C hret hlk htab hS hl hRf hRl hmc hms hmR hsR
    have C0 := C
    obtain ⟨hx, hb, hml, hown, hon, hts, hnw, hK, hini, -, -, -, hBs, hX, hK2, hH2⟩ := C0
    obtain ⟨hP, hV, hn0, hs0, hz0, hlm⟩ := hS
    have hS : zx_S D dA B a n0 z0 s h H locs cells slots := ⟨hP, hV, hn0, hs0, hz0, hlm⟩
    have hmono0 := zx_run_mono _ _ _ _ _ _ _ hrun
    unfold zx_run at hrun
    rw [hq] at hrun
    dsimp only at hrun
    split at hrun
    · cases hrun
    · next ins len hd =>
      split at hrun
      · next f' hp =>
        exact zx_p_ok hx hb hd hl hp (fun ls' hl' => ih d mi f' h o h' y cc nL ret hh oc np hc hs hsel hi hq hrun p e R s m args below meth c H locs cells slots ls' n0 z0 mc ms own C hret hlk htab hS hl' hRf hRl hmc hms hmR hsR)
      · split at hrun
        · next f' h2 hh2 =>
          have hm := zx_run_mono _ _ _ _ _ _ _ hrun
          exact zx_h_ok C hS hd hl hh2 (by omega) (by omega) (by omega) (by omega) (fun H' locs' cells' slots' hS' ls' hl' => ih d mi f' h2 o h' y cc nL ret hh oc np hc hs hsel hi hq hrun p e R s m args below meth c H' locs' cells' slots' ls' n0 z0 mc ms own C hret hlk htab hS' hl' hRf hRl hmc hms hmR hsR)
        · split at hrun
          · next f' h2 hh2 =>
            have hm := zx_run_mono _ _ _ _ _ _ _ hrun
            exact zx_h2_ok C hS hd hl hh2 (by have := zx_h2_mono hh2; omega) (by have := zx_h2_mono hh2; omega) (by omega) (by omega) (fun H' locs' cells' slots' hS' ls' hl' => ih d mi f' h2 o h' y cc nL ret hh oc np hc hs hsel hi hq hrun p e R s m args below meth c H' locs' cells' slots' ls' n0 z0 mc ms own C hret hlk htab hS' hl' hRf hRl hmc hms hmR hsR)
          split at hrun
          · next v hv =>
            cases hrun
            have e1 : mc = cells := by omega
            have e2 : ms = slots := by omega
            subst e1 e2
            exact zx_rt_ok hx hb hret hlk hd hv (fun t ht hW => ⟨⟨v, rfl, rfl⟩, by rw [ht]; exact hP, hV.F ht, hlm⟩) hV.2.2
          · split at hrun
            · next mj as rest hcall =>
              split at hrun
              · cases hrun
              · next d' =>
                split at hrun
                · cases hrun
                · next v h1 hcr =>
                  have hm1 := zx_run_mono _ _ _ _ _ _ _ hcr
                  have hm2 := zx_run_mono _ _ _ _ _ _ _ hrun
                  intro T hT X
                  have hHs := zx_S_size hS hT X
                  obtain ⟨av, hr⟩ := zx_call (l := l) ha hab hbB C hS hHs hd hcall hl ih hcr hRf hRl (mC := h1.length - h.length) (sC := zx_sz h1 - zx_sz h) (by omega) (by omega) (by constructor <;> omega)
                  refine zx_after hr hS (by omega) (by omega) (fun v' H1 locs1 ho hS1 => ?_) (fun ci r H1 locs1 q ce ho => by cases ho) T hT X
                  cases ho
                  exact ih (d' + 1) mi _ h1 o h' y cc nL ret hh oc np hc hs hsel hi hq hrun p e R s m args below meth c H1 locs1 _ _ ls n0 z0 mc ms own C hret hlk htab hS1 hl hRf hRl hmc hms hmR hsR
                · next E h1 hcr =>
                  have hm1 := zx_run_mono _ _ _ _ _ _ _ hcr
                  intro T hT X
                  have hHs := zx_S_size hS hT X
                  have hm2 : h1.length ≤ h'.length ∧ zx_sz h1 ≤ zx_sz h' := by
                    split at hrun
                    · cases hrun
                    · cases hrun; exact ⟨Nat.le_refl _, Nat.le_refl _⟩
                    · split at hrun
                      · cases hrun
                      · exact zx_run_mono _ _ _ _ _ _ _ hrun
                  obtain ⟨av, hr⟩ := zx_call (l := l) ha hab hbB C hS hHs hd hcall hl ih hcr hRf hRl (mC := h1.length - h.length) (sC := zx_sz h1 - zx_sz h) (by omega) (by omega) (by constructor <;> omega)
                  refine zx_after hr hS (by omega) (by omega) (fun v' H1 locs1 ho => by cases ho) (fun ci r H1 locs1 q ce ho hci hr9 hS1 hce hcv hcl => ?_) T hT X
                  cases ho
                  obtain ⟨hP1, hV1, hn1, hs1, hz1, hlm1⟩ := hS1
                  have hS1 : zx_S D dA B a n0 z0 s h1 H1 locs1 (cells + (h1.length - h.length)) (slots + (zx_sz h1 - zx_sz h)) := ⟨hP1, hV1, hn1, hs1, hz1, hlm1⟩
                  split at hrun
                  · cases hrun
                  · next hhd =>
                    cases hrun
                    rcases zx_hd_ok (args := args) hon hts hK2 hr9 hci hh none hhd with ⟨-, hpass⟩ | ⟨hp, pre, x, suf, h9, -⟩
                    · exact vx_outP hown hlk (by rw [htab]; exact hpass) hce hcv hcl (fun t ht hal => ⟨⟨E, r, rfl, hci, hr9, rfl⟩, by rw [ht]; exact hP1, hV1.F ht, hlm1⟩) hV1.2.2 (by omega) (by omega)
                    · cases h9
                  · next hp hhd =>
                    split at hrun
                    · cases hrun
                    · next f' hca =>
                      rcases zx_hd_ok (args := args) hon hts hK2 hr9 hci hh (some hp) hhd with ⟨h9, -⟩ | ⟨hp9, pre, x, suf, h9, hsplit, hpre, hcov, hct, hhp, hlink⟩
                      · cases h9
                      · cases h9
                        refine vx_catch hown pre x suf (by rw [htab]; exact hsplit) hpre hcov hct hlink (va_Nw.use rfl (hnw _ (zt_castself E r hci hr9))) hce hcv hcl ?_
                        rw [hhp]
                        exact zx_ca_ok hx hb hl hca q (fun ls' hl' => ih (d' + 1) mi f' h1 o h' y cc nL ret hh oc np hc hs hsel hi hq hrun p e R s m args below meth c H1 locs1 _ _ ls' n0 z0 mc ms own C hret hlk htab hS1 hl' hRf hRl hmc hms hmR hsR)
            · split at hrun
              · next ci hth =>
                split at hrun
                · next hcond =>
                  obtain ⟨rfl, hlim⟩ := hcond
                  cases hrun
                  rw [zx_sz_push] at hms
                  exact zx_th_ok hlt C hS hlk htab hl hd hth hlim (by simpa using hmc) hms hmR hsR (by omega) (by omega)
                · cases hrun
              · cases hrun
end
section
/-! ===== runs without the fuel: some number of steps; more steps and more depth do no harm ===== -/
theorem zx_run_more {sc : (Nat × (Nat → Int32)) × Bool} : ∀ (n d mi : Nat) (f : zx_F) (h : zx_H) (r : zx_O × zx_H), zx_run sc n d mi f h = some r → ∀ k j, zx_run sc (n + k) (d + j) mi f h = some r := by
  intro n
  induction n with
  | zero => intro d mi f h r h1; cases h1
  | succ n ih =>
    intro d mi f h r h1 k j
    rw [show n + 1 + k = (n + k) + 1 by omega]
    unfold zx_run at h1 ⊢
    split at h1
    · cases h1
    · next y cc nL ret hh oc np hc hs hsel hi hq =>
      try rw [hq]
      try dsimp only
      split at h1
      · cases h1
      · next ins len hd =>
        try rw [hd]
        try dsimp only
        split at h1
        · next hp =>
          try rw [hp]
          exact ih _ _ _ _ _ h1 k j
        · next hp =>
          try rw [hp]
          try dsimp only
          split at h1
          · next hh9 =>
            try rw [hh9]
            exact ih _ _ _ _ _ h1 k j
          · next hh9 =>
            try rw [hh9]
            try dsimp only
            split at h1
            · next hh8 =>
              try rw [hh8]
              exact ih _ _ _ _ _ h1 k j
            next hh8 =>
            try rw [hh8]
            try dsimp only
            split at h1
            · next hv => (try rw [hv]); exact h1
            · next hv =>
              try rw [hv]
              try dsimp only
              split at h1
              · next hcall =>
                try rw [hcall]
                try dsimp only
                split at h1
                · cases h1
                · next d' =>
                  rw [show d' + 1 + j = (d' + j) + 1 by omega]
                  try dsimp only
                  split at h1
                  · cases h1
                  · next hcr =>
                    rw [ih _ _ _ _ _ hcr k j]
                    try dsimp only
                    have h2 := ih _ _ _ _ _ h1 k j
                    rw [show d' + 1 + j = (d' + j) + 1 by omega] at h2
                    exact h2
                  · next hcr =>
                    rw [ih _ _ _ _ _ hcr k j]
                    try dsimp only
                    split at h1
                    · cases h1
                    · next hhd => (try rw [hhd]); exact h1
                    · next hhd =>
                      try rw [hhd]
                      try dsimp only
                      split at h1
                      · cases h1
                      · next hca =>
                        try rw [hca]
                        try dsimp only
                        have h2 := ih _ _ _ _ _ h1 k j
                        rw [show d' + 1 + j = (d' + j) + 1 by omega] at h2
                        exact h2
              · next hcall =>
                try rw [hcall]
                exact h1
/-- from f, with the heap h, at depth d, method mi comes to the end o with the heap h' -/
def zx_T (sc : (Nat × (Nat → Int32)) × Bool) (d mi : Nat) (f : zx_F) (h : zx_H) (o : zx_O) (h' : zx_H) : Prop := ∃ n, zx_run sc n d mi f h = some (o, h')
section ZXT2
variable {sc : (Nat × (Nat → Int32)) × Bool} {d mi pc : Nat} {lv : List (Nat × Value)} {st : List Value} {h h' : zx_H} {o : zx_O} {y : MethodName} {cc : ByteArray} {nL : Nat} {ret : Option FieldType} {hh : List (Nat × Nat × Nat × Nat)} {oc np hc hs hsel hi : Nat} {ins : Instr} {len : Nat} {f : zx_F}
theorem zx_T_deeper (k : zx_T sc d mi f h o h') (j : Nat) : zx_T sc (d + j) mi f h o h' := by
  obtain ⟨n, hn⟩ := k
  exact ⟨n, zx_run_more n d mi f h _ hn 0 j⟩
theorem zx_T_p (hq : zt_m[mi]? = some (y, cc, nL, ret, hh, oc, np, hc, hs, hsel, hi)) (hd : decode cc pc = .ok (ins, len)) (hp : zx_p nL pc lv st ins len = some f) (k : zx_T sc d mi f h o h') : zx_T sc d mi (pc, lv, st) h o h' := by
  obtain ⟨n, hn⟩ := k
  refine ⟨n + 1, ?_⟩
  unfold zx_run
  simp only [hq, hd, hp]
  exact hn
theorem zx_T_h {h1 : zx_H} (hq : zt_m[mi]? = some (y, cc, nL, ret, hh, oc, np, hc, hs, hsel, hi)) (hd : decode cc pc = .ok (ins, len)) (hp : zx_p nL pc lv st ins len = none) (hh1 : zx_h oc (hs == 2) sc pc lv st h ins len = some (f, h1)) (k : zx_T sc d mi f h1 o h') : zx_T sc d mi (pc, lv, st) h o h' := by
  obtain ⟨n, hn⟩ := k
  refine ⟨n + 1, ?_⟩
  unfold zx_run
  simp only [hq, hd, hp, hh1]
  exact hn
theorem zx_T_h2 {h1 : zx_H} (hq : zt_m[mi]? = some (y, cc, nL, ret, hh, oc, np, hc, hs, hsel, hi)) (hd : decode cc pc = .ok (ins, len)) (hp : zx_p nL pc lv st ins len = none) (hh1 : zx_h oc (hs == 2) sc pc lv st h ins len = none) (hh2 : zx_h2 oc sc pc lv st h ins len = some (f, h1)) (k : zx_T sc d mi f h1 o h') : zx_T sc d mi (pc, lv, st) h o h' := by
  obtain ⟨n, hn⟩ := k
  refine ⟨n + 1, ?_⟩
  unfold zx_run
  simp only [hq, hd, hp, hh1, hh2]
  exact hn
theorem zx_T_r {v : Option Value} (hq : zt_m[mi]? = some (y, cc, nL, ret, hh, oc, np, hc, hs, hsel, hi)) (hd : decode cc pc = .ok (ins, len)) (hp : zx_p nL pc lv st ins len = none) (hh1 : zx_h oc (hs == 2) sc pc lv st h ins len = none) (hh2 : zx_h2 oc sc pc lv st h ins len = none) (hr : zx_rt ret st ins len = some v) : zx_T sc d mi (pc, lv, st) h (.inl v) h := by
  refine ⟨1, ?_⟩
  unfold zx_run
  simp only [hq, hd, hp, hh1, hh2, hr]
theorem zx_T_c {h1 : zx_H} {mj : Nat} {as rest : List Value} {v : Option Value} (hq : zt_m[mi]? = some (y, cc, nL, ret, hh, oc, np, hc, hs, hsel, hi)) (hd : decode cc pc = .ok (ins, len)) (hp : zx_p nL pc lv st ins len = none) (hh1 : zx_h oc (hs == 2) sc pc lv st h ins len = none) (hh2 : zx_h2 oc sc pc lv st h ins len = none) (hr : zx_rt ret st ins len = none) (hcl : zx_c oc st h ins len = some (mj, as, rest))
    (kc : zx_T sc d mj (0, lv_args 0 as, []) h (.inl v) h1) (k : zx_T sc (d + 1) mi (pc + len, lv, v.toList ++ rest) h1 o h') : zx_T sc (d + 1) mi (pc, lv, st) h o h' := by
  obtain ⟨n1, h1n⟩ := kc
  obtain ⟨n2, h2n⟩ := k
  refine ⟨n1 + n2 + 1, ?_⟩
  have e1 := zx_run_more _ _ _ _ _ _ h1n n2 0
  have e2 := zx_run_more _ _ _ _ _ _ h2n n1 0
  rw [Nat.add_zero] at e1 e2
  rw [show n2 + n1 = n1 + n2 by omega] at e2
  unfold zx_run
  simp only [hq, hd, hp, hh1, hh2, hr, hcl, e1]
  exact e2
/-- a call that throws, not caught here -/
theorem zx_T_cx {h1 : zx_H} {mj E : Nat} {as rest : List Value} (hq : zt_m[mi]? = some (y, cc, nL, ret, hh, oc, np, hc, hs, hsel, hi)) (hd : decode cc pc = .ok (ins, len)) (hp : zx_p nL pc lv st ins len = none) (hh1 : zx_h oc (hs == 2) sc pc lv st h ins len = none) (hh2 : zx_h2 oc sc pc lv st h ins len = none) (hr : zx_rt ret st ins len = none) (hcl : zx_c oc st h ins len = some (mj, as, rest))
    (kc : zx_T sc d mj (0, lv_args 0 as, []) h (.inr E) h1) (hhd : zx_hd oc pc E hh = some none) : zx_T sc (d + 1) mi (pc, lv, st) h (.inr E) h1 := by
  obtain ⟨n1, h1n⟩ := kc
  refine ⟨n1 + 1, ?_⟩
  unfold zx_run
  simp only [hq, hd, hp, hh1, hh2, hr, hcl, h1n, hhd]
/-- .. caught here -/
theorem zx_T_ca {h1 : zx_H} {mj E hp9 : Nat} {as rest : List Value} (hq : zt_m[mi]? = some (y, cc, nL, ret, hh, oc, np, hc, hs, hsel, hi)) (hd : decode cc pc = .ok (ins, len)) (hp : zx_p nL pc lv st ins len = none) (hh1 : zx_h oc (hs == 2) sc pc lv st h ins len = none) (hh2 : zx_h2 oc sc pc lv st h ins len = none) (hr : zx_rt ret st ins len = none) (hcl : zx_c oc st h ins len = some (mj, as, rest))
    (kc : zx_T sc d mj (0, lv_args 0 as, []) h (.inr E) h1) (hhd : zx_hd oc pc E hh = some (some hp9)) (hca : zx_ca cc nL hp9 lv = some f) (k : zx_T sc (d + 1) mi f h1 o h') : zx_T sc (d + 1) mi (pc, lv, st) h o h' := by
  obtain ⟨n1, h1n⟩ := kc
  obtain ⟨n2, h2n⟩ := k
  refine ⟨n1 + n2 + 1, ?_⟩
  have e1 := zx_run_more _ _ _ _ _ _ h1n n2 0
  have e2 := zx_run_more _ _ _ _ _ _ h2n n1 0
  rw [Nat.add_zero] at e1 e2
  rw [show n2 + n1 = n1 + n2 by omega] at e2
  unfold zx_run
  simp only [hq, hd, hp, hh1, hh2, hr, hcl, e1, hhd, hca]
  exact e2
theorem zx_T_t {ci : Nat} (hq : zt_m[mi]? = some (y, cc, nL, ret, [], oc, np, hc, hs, hsel, hi)) (hd : decode cc pc = .ok (ins, len)) (hp : zx_p nL pc lv st ins len = none) (hh1 : zx_h oc (hs == 2) sc pc lv st h ins len = none) (hh2 : zx_h2 oc sc pc lv st h ins len = none) (hr : zx_rt ret st ins len = none) (hcl : zx_c oc st h ins len = none) (hth : zx_th oc cc pc st ins len = some ci) (hlim : h.length < zx_lim) : zx_T sc d mi (pc, lv, st) h (.inr ci) (h ++ [.inr (ci, [])]) := by
  refine ⟨1, ?_⟩
  unfold zx_run
  simp only [hq, hd, hp, hh1, hh2, hr, hcl, hth, hlim, and_self, if_true]
end ZXT2
end
