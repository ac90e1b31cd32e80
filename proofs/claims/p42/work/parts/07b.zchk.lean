set_option maxRecDepth 100000 in
theorem zt_m_41 : zt_mOK (⟨"ColumnVault", "isLetter", "(I)Z"⟩, prog_1_method_55_code, 1, some (.boolean), [], 12, 1, 0, 1, 99999, 0) := ⟨(zt_in (j := 2) (k := 225) rfl rfl), rfl, (zt_in (j := 1) (k := 1) rfl rfl), (zt_in (j := 2) (k := 224) rfl rfl), Or.inl rfl, by decide +kernel, by decide, fun h => absurd h (by decide)⟩
set_option maxRecDepth 100000 in
theorem zt_m_42 : zt_mOK (⟨"ColumnVault", "keyOf", "(IJ)J"⟩, prog_1_method_57_code, 6, some (.long), [], 12, 2, 0, 1, 99999, 0) := ⟨(zt_in (j := 2) (k := 230) rfl rfl), rfl, (zt_in (j := 1) (k := 1) rfl rfl), (zt_in (j := 2) (k := 229) rfl rfl), Or.inl rfl, by decide +kernel, by decide, fun h => absurd h (by decide)⟩
set_option maxRecDepth 100000 in
theorem zt_m_43 : zt_mOK (⟨"ColumnVault", "get", "(III)J"⟩, prog_1_method_7_code, 5, some (.long), [], 12, 3, 0, 0, 0, 0) := ⟨(zt_in (j := 2) (k := 234) rfl rfl), rfl, (zt_in (j := 1) (k := 1) rfl rfl), (zt_in (j := 2) (k := 232) rfl rfl), Or.inr (zt_in (j := 2) (k := 233) rfl rfl), by decide +kernel, by decide, fun h => absurd h (by decide)⟩
set_option maxRecDepth 100000 in
theorem zt_m_44 : zt_mOK (⟨"ColumnVault$Sheet", "valueOf", "(II)J"⟩, prog_10_method_9_code, 3, some (.long), [], 10, 2, 0, 0, 0, 0) := ⟨(zt_in (j := 2) (k := 238) rfl rfl), rfl, (zt_in (j := 1) (k := 3) rfl rfl), (zt_in (j := 2) (k := 236) rfl rfl), Or.inr (zt_in (j := 2) (k := 237) rfl rfl), by decide +kernel, by decide, fun h => absurd h (by decide)⟩
set_option maxRecDepth 100000 in
theorem zt_m_45 : zt_mOK (⟨"ColumnVault", "toldOf", "(IJ)J"⟩, prog_1_method_58_code, 6, some (.long), [], 12, 2, 0, 1, 99999, 0) := ⟨(zt_in (j := 3) (k := 2) rfl rfl), rfl, (zt_in (j := 1) (k := 1) rfl rfl), (zt_in (j := 3) (k := 1) rfl rfl), Or.inl rfl, by decide +kernel, by decide, fun h => absurd h (by decide)⟩
set_option maxRecDepth 100000 in
theorem zt_m_46 : zt_mOK (⟨"ColumnVault", "back", "(I)I"⟩, prog_1_method_11_code, 2, some (.int), [], 12, 1, 0, 0, 0, 0) := ⟨(zt_in (j := 3) (k := 6) rfl rfl), rfl, (zt_in (j := 1) (k := 1) rfl rfl), (zt_in (j := 3) (k := 4) rfl rfl), Or.inr (zt_in (j := 3) (k := 5) rfl rfl), by decide +kernel, by decide, fun h => absurd h (by decide)⟩
set_option maxRecDepth 100000 in
theorem zt_m_47 : zt_mOK (⟨"ColumnVault$History", "keeps", "(I)Z"⟩, prog_6_method_2_code, 2, some (.boolean), [], 6, 1, 0, 0, 0, 0) := ⟨(zt_in (j := 3) (k := 10) rfl rfl), rfl, (zt_in (j := 1) (k := 2) rfl rfl), (zt_in (j := 3) (k := 8) rfl rfl), Or.inr (zt_in (j := 3) (k := 9) rfl rfl), by decide +kernel, by decide, fun h => absurd h (by decide)⟩
set_option maxRecDepth 100000 in
theorem zt_m_48 : zt_mOK (⟨"ColumnVault", "rowAt", "(II)I"⟩, prog_1_method_13_code, 4, some (.int), [], 12, 2, 0, 0, 0, 0) := ⟨(zt_in (j := 3) (k := 15) rfl rfl), rfl, (zt_in (j := 1) (k := 1) rfl rfl), (zt_in (j := 3) (k := 13) rfl rfl), Or.inr (zt_in (j := 3) (k := 14) rfl rfl), by decide +kernel, by decide, fun h => absurd h (by decide)⟩
set_option maxRecDepth 100000 in
theorem zt_m_49 : zt_mOK (⟨"ColumnVault", "requirePlace", "(LColumnVault$Sheet;I)V"⟩, prog_1_method_49_code, 2, none, [], 12, 2, 0, 1, 99999, 0) := ⟨(zt_in (j := 3) (k := 18) rfl rfl), rfl, (zt_in (j := 1) (k := 1) rfl rfl), (zt_in (j := 3) (k := 17) rfl rfl), Or.inl rfl, by decide +kernel, by decide, fun h => absurd h (by decide)⟩
set_option maxRecDepth 100000 in
theorem zt_m_50 : zt_mOK (⟨"ColumnVault$Sheet", "rowInOrder", "(I)I"⟩, prog_10_method_15_code, 2, some (.int), [], 10, 1, 0, 0, 0, 0) := ⟨(zt_in (j := 3) (k := 23) rfl rfl), rfl, (zt_in (j := 1) (k := 3) rfl rfl), (zt_in (j := 3) (k := 21) rfl rfl), Or.inr (zt_in (j := 3) (k := 22) rfl rfl), by decide +kernel, by decide, fun h => absurd h (by decide)⟩
set_option maxRecDepth 100000 in
theorem zt_m_51 : zt_mOK (⟨"ColumnVault", "choose", "(II)I"⟩, prog_1_method_16_code, 6, some (.int), [], 12, 2, 0, 0, 0, 0) := ⟨(zt_in (j := 3) (k := 27) rfl rfl), rfl, (zt_in (j := 1) (k := 1) rfl rfl), (zt_in (j := 3) (k := 25) rfl rfl), Or.inr (zt_in (j := 3) (k := 26) rfl rfl), by decide +kernel, by decide, fun h => absurd h (by decide)⟩
set_option maxRecDepth 100000 in
theorem zt_m_52 : zt_mOK (⟨"ColumnVault", "filterOf", "(I)LColumnVault$Node;"⟩, prog_1_method_45_code, 3, some (.object "ColumnVault$Node"), [], 12, 1, 0, 0, 0, 0) := ⟨(zt_in (j := 3) (k := 32) rfl rfl), rfl, (zt_in (j := 1) (k := 1) rfl rfl), (zt_in (j := 3) (k := 31) rfl rfl), Or.inr (zt_in (j := 0) (k := 4) rfl rfl), by decide +kernel, by decide, fun h => absurd h (by decide)⟩
set_option maxRecDepth 100000 in
theorem zt_m_53 : zt_mOK (⟨"ColumnVault", "readerOf", "(I)LColumnVault$FilterReader;"⟩, prog_1_method_44_code, 2, some (.object "ColumnVault$FilterReader"), [], 12, 1, 0, 0, 0, 0) := ⟨(zt_in (j := 3) (k := 36) rfl rfl), rfl, (zt_in (j := 1) (k := 1) rfl rfl), (zt_in (j := 3) (k := 35) rfl rfl), Or.inr (zt_in (j := 0) (k := 5) rfl rfl), by decide +kernel, by decide, fun h => absurd h (by decide)⟩
set_option maxRecDepth 100000 in
theorem zt_m_54 : zt_mOK (⟨"ColumnVault$FilterReader", "<init>", "(LColumnVault$Tokens;LColumnVault$Sheet;)V"⟩, prog_3_method_1_code, 3, none, [], 3, 2, 0, 2, 99999, 0) := ⟨(zt_in (j := 3) (k := 41) rfl rfl), rfl, (zt_in (j := 1) (k := 16) rfl rfl), (zt_in (j := 3) (k := 40) rfl rfl), Or.inl rfl, by decide +kernel, by decide, fun _ => rfl⟩
set_option maxRecDepth 100000 in
theorem zt_m_55 : zt_mOK (⟨"ColumnVault$FilterReader", "readWhole", "(LColumnVault$FilterText;)LColumnVault$Node;"⟩, prog_3_method_2_code, 3, some (.object "ColumnVault$Node"), [], 3, 1, 0, 0, 0, 0) := ⟨(zt_in (j := 3) (k := 70) rfl rfl), rfl, (zt_in (j := 1) (k := 16) rfl rfl), (zt_in (j := 3) (k := 68) rfl rfl), Or.inr (zt_in (j := 3) (k := 69) rfl rfl), by decide +kernel, by decide, fun h => absurd h (by decide)⟩
set_option maxRecDepth 100000 in
theorem zt_m_56 : zt_mOK (⟨"ColumnVault$Tokens", "readFrom", "(LColumnVault$FilterText;)V"⟩, prog_11_method_2_code, 4, none, [], 11, 1, 0, 0, 0, 0) := ⟨(zt_in (j := 3) (k := 74) rfl rfl), rfl, (zt_in (j := 1) (k := 5) rfl rfl), (zt_in (j := 3) (k := 72) rfl rfl), Or.inr (zt_in (j := 3) (k := 73) rfl rfl), by decide +kernel, by decide, fun h => absurd h (by decide)⟩
set_option maxRecDepth 100000 in
theorem zt_m_57 : zt_mOK (⟨"ColumnVault$FilterText", "byteAt", "(I)I"⟩, prog_4_method_2_code, 2, some (.int), [], 4, 1, 0, 0, 0, 0) := ⟨(zt_in (j := 3) (k := 78) rfl rfl), rfl, (zt_in (j := 1) (k := 4) rfl rfl), (zt_in (j := 3) (k := 76) rfl rfl), Or.inr (zt_in (j := 3) (k := 77) rfl rfl), by decide +kernel, by decide, fun h => absurd h (by decide)⟩
set_option maxRecDepth 100000 in
theorem zt_m_58 : zt_mOK (⟨"ColumnVault$Tokens", "readToken", "(LColumnVault$FilterText;I)I"⟩, prog_11_method_3_code, 5, some (.int), [], 11, 2, 0, 0, 0, 0) := ⟨(zt_in (j := 3) (k := 82) rfl rfl), rfl, (zt_in (j := 1) (k := 5) rfl rfl), (zt_in (j := 3) (k := 81) rfl rfl), Or.inr (zt_in (j := 0) (k := 6) rfl rfl), by decide +kernel, by decide, fun h => absurd h (by decide)⟩
set_option maxRecDepth 100000 in
theorem zt_m_59 : zt_mOK (⟨"ColumnVault$Tokens", "put", "(IIJ)V"⟩, prog_11_method_6_code, 5, none, [], 11, 3, 0, 0, 0, 0) := ⟨(zt_in (j := 3) (k := 87) rfl rfl), rfl, (zt_in (j := 1) (k := 5) rfl rfl), (zt_in (j := 3) (k := 86) rfl rfl), Or.inr (zt_in (j := 0) (k := 7) rfl rfl), by decide +kernel, by decide, fun h => absurd h (by decide)⟩
set_option maxRecDepth 100000 in
theorem zt_m_60 : zt_mOK (⟨"ColumnVault", "isDigit", "(I)Z"⟩, prog_1_method_56_code, 1, some (.boolean), [], 12, 1, 0, 1, 99999, 0) := ⟨(zt_in (j := 3) (k := 90) rfl rfl), rfl, (zt_in (j := 1) (k := 1) rfl rfl), (zt_in (j := 3) (k := 89) rfl rfl), Or.inl rfl, by decide +kernel, by decide, fun h => absurd h (by decide)⟩
set_option maxRecDepth 100000 in
theorem zt_m_61 : zt_mOK (⟨"ColumnVault$Tokens", "readWord", "(LColumnVault$FilterText;I)I"⟩, prog_11_method_4_code, 6, some (.int), [], 11, 2, 0, 0, 0, 0) := ⟨(zt_in (j := 3) (k := 95) rfl rfl), rfl, (zt_in (j := 1) (k := 5) rfl rfl), (zt_in (j := 3) (k := 94) rfl rfl), Or.inr (zt_in (j := 0) (k := 8) rfl rfl), by decide +kernel, by decide, fun h => absurd h (by decide)⟩
set_option maxRecDepth 100000 in
theorem zt_m_62 : zt_mOK (⟨"ColumnVault$Tokens", "readNumber", "(LColumnVault$FilterText;I)I"⟩, prog_11_method_5_code, 7, some (.int), [], 11, 2, 0, 0, 0, 0) := ⟨(zt_in (j := 3) (k := 100) rfl rfl), rfl, (zt_in (j := 1) (k := 5) rfl rfl), (zt_in (j := 3) (k := 99) rfl rfl), Or.inr (zt_in (j := 0) (k := 9) rfl rfl), by decide +kernel, by decide, fun h => absurd h (by decide)⟩
set_option maxRecDepth 100000 in
theorem zt_m_63 : zt_mOK (⟨"java/lang/Math", "min", "(JJ)J"⟩, prog_28_method_70_code, 4, some (.long), [], 19, 2, 0, 1, 99999, 0) := ⟨(zt_in (j := 3) (k := 106) rfl rfl), rfl, (zt_in (j := 1) (k := 17) rfl rfl), (zt_in (j := 3) (k := 105) rfl rfl), Or.inl rfl, by decide +kernel, by decide, fun h => absurd h (by decide)⟩
set_option maxRecDepth 100000 in
theorem zt_m_64 : zt_mOK (⟨"java/lang/Math", "max", "(II)I"⟩, prog_28_method_65_code, 2, some (.int), [], 19, 2, 0, 1, 99999, 0) := ⟨(zt_in (j := 3) (k := 110) rfl rfl), rfl, (zt_in (j := 1) (k := 17) rfl rfl), (zt_in (j := 3) (k := 109) rfl rfl), Or.inl rfl, by decide +kernel, by decide, fun h => absurd h (by decide)⟩
set_option maxRecDepth 100000 in
theorem zt_m_65 : zt_mOK (⟨"ColumnVault$FilterReader", "readFilter", "(I)LColumnVault$Node;"⟩, prog_3_method_5_code, 6, some (.object "ColumnVault$Node"), [], 3, 1, 0, 0, 0, 0) := ⟨(zt_in (j := 3) (k := 114) rfl rfl), rfl, (zt_in (j := 1) (k := 16) rfl rfl), (zt_in (j := 3) (k := 113) rfl rfl), Or.inr (zt_in (j := 0) (k := 10) rfl rfl), by decide +kernel, by decide, fun h => absurd h (by decide)⟩
set_option maxRecDepth 100000 in
theorem zt_m_66 : zt_mOK (⟨"ColumnVault$Node", "<init>", "(IJ)V"⟩, prog_8_method_1_code, 4, none, [], 8, 2, 0, 2, 99999, 0) := ⟨(zt_in (j := 3) (k := 119) rfl rfl), rfl, (zt_in (j := 1) (k := 18) rfl rfl), (zt_in (j := 3) (k := 118) rfl rfl), Or.inl rfl, by decide +kernel, by decide, fun _ => rfl⟩
set_option maxRecDepth 100000 in
theorem zt_m_67 : zt_mOK (⟨"ColumnVault$FilterReader", "readPart", "(I)LColumnVault$Node;"⟩, prog_3_method_6_code, 6, some (.object "ColumnVault$Node"), [], 3, 1, 0, 0, 0, 0) := ⟨(zt_in (j := 3) (k := 152) rfl rfl), rfl, (zt_in (j := 1) (k := 16) rfl rfl), (zt_in (j := 3) (k := 151) rfl rfl), Or.inr (zt_in (j := 0) (k := 11) rfl rfl), by decide +kernel, by decide, fun h => absurd h (by decide)⟩
set_option maxRecDepth 100000 in
theorem zt_m_68 : zt_mOK (⟨"ColumnVault$Sheet", "allRows", "()J"⟩, prog_10_method_22_code, 1, some (.long), [], 10, 0, 0, 0, 0, 0) := ⟨(zt_in (j := 3) (k := 156) rfl rfl), rfl, (zt_in (j := 1) (k := 3) rfl rfl), (zt_in (j := 3) (k := 154) rfl rfl), Or.inr (zt_in (j := 3) (k := 155) rfl rfl), by decide +kernel, by decide, fun h => absurd h (by decide)⟩
set_option maxRecDepth 100000 in
theorem zt_m_69 : zt_mOK (⟨"ColumnVault$FilterReader", "readPiece", "(I)LColumnVault$Node;"⟩, prog_3_method_7_code, 4, some (.object "ColumnVault$Node"), [], 3, 1, 0, 0, 0, 0) := ⟨(zt_in (j := 3) (k := 160) rfl rfl), rfl, (zt_in (j := 1) (k := 16) rfl rfl), (zt_in (j := 3) (k := 159) rfl rfl), Or.inr (zt_in (j := 0) (k := 12) rfl rfl), by decide +kernel, by decide, fun h => absurd h (by decide)⟩
set_option maxRecDepth 100000 in
theorem zt_m_70 : zt_mOK (⟨"ColumnVault$FilterReader", "takes", "(I)Z"⟩, prog_3_method_4_code, 2, some (.boolean), [], 3, 1, 0, 0, 0, 0) := ⟨(zt_in (j := 3) (k := 164) rfl rfl), rfl, (zt_in (j := 1) (k := 16) rfl rfl), (zt_in (j := 3) (k := 163) rfl rfl), Or.inr (zt_in (j := 0) (k := 13) rfl rfl), by decide +kernel, by decide, fun h => absurd h (by decide)⟩
set_option maxRecDepth 100000 in
theorem zt_m_71 : zt_mOK (⟨"ColumnVault$Tokens", "formAt", "(I)I"⟩, prog_11_method_7_code, 2, some (.int), [], 11, 1, 0, 0, 0, 0) := ⟨(zt_in (j := 3) (k := 168) rfl rfl), rfl, (zt_in (j := 1) (k := 5) rfl rfl), (zt_in (j := 3) (k := 166) rfl rfl), Or.inr (zt_in (j := 3) (k := 167) rfl rfl), by decide +kernel, by decide, fun h => absurd h (by decide)⟩
set_option maxRecDepth 100000 in
theorem zt_m_72 : zt_mOK (⟨"ColumnVault$Tokens", "placeAt", "(I)I"⟩, prog_11_method_8_code, 2, some (.int), [], 11, 1, 0, 0, 0, 0) := ⟨(zt_in (j := 3) (k := 172) rfl rfl), rfl, (zt_in (j := 1) (k := 5) rfl rfl), (zt_in (j := 3) (k := 170) rfl rfl), Or.inr (zt_in (j := 3) (k := 171) rfl rfl), by decide +kernel, by decide, fun h => absurd h (by decide)⟩
set_option maxRecDepth 100000 in
theorem zt_m_73 : zt_mOK (⟨"ColumnVault$FilterReader", "fail", "(II)LColumnVault$Node;"⟩, prog_3_method_3_code, 3, some (.object "ColumnVault$Node"), [], 3, 2, 0, 0, 0, 0) := ⟨(zt_in (j := 3) (k := 176) rfl rfl), rfl, (zt_in (j := 1) (k := 16) rfl rfl), (zt_in (j := 3) (k := 175) rfl rfl), Or.inr (zt_in (j := 0) (k := 14) rfl rfl), by decide +kernel, by decide, fun h => absurd h (by decide)⟩
set_option maxRecDepth 100000 in
theorem zt_m_74 : zt_mOK (⟨"ColumnVault$FilterReader", "readBrackets", "(I)LColumnVault$Node;"⟩, prog_3_method_8_code, 3, some (.object "ColumnVault$Node"), [], 3, 1, 0, 0, 0, 0) := ⟨(zt_in (j := 3) (k := 180) rfl rfl), rfl, (zt_in (j := 1) (k := 16) rfl rfl), (zt_in (j := 3) (k := 179) rfl rfl), Or.inr (zt_in (j := 0) (k := 15) rfl rfl), by decide +kernel, by decide, fun h => absurd h (by decide)⟩
set_option maxRecDepth 100000 in
theorem zt_m_75 : zt_mOK (⟨"ColumnVault$FilterReader", "readTest", "()LColumnVault$Node;"⟩, prog_3_method_9_code, 3, some (.object "ColumnVault$Node"), [], 3, 0, 0, 0, 0, 0) := ⟨(zt_in (j := 3) (k := 184) rfl rfl), rfl, (zt_in (j := 1) (k := 16) rfl rfl), (zt_in (j := 3) (k := 183) rfl rfl), Or.inr (zt_in (j := 0) (k := 16) rfl rfl), by decide +kernel, by decide, fun h => absurd h (by decide)⟩
set_option maxRecDepth 100000 in
theorem zt_m_76 : zt_mOK (⟨"ColumnVault$Tokens", "valueAt", "(I)J"⟩, prog_11_method_9_code, 2, some (.long), [], 11, 1, 0, 0, 0, 0) := ⟨(zt_in (j := 3) (k := 188) rfl rfl), rfl, (zt_in (j := 1) (k := 5) rfl rfl), (zt_in (j := 3) (k := 186) rfl rfl), Or.inr (zt_in (j := 3) (k := 187) rfl rfl), by decide +kernel, by decide, fun h => absurd h (by decide)⟩
set_option maxRecDepth 100000 in
theorem zt_m_77 : zt_mOK (⟨"ColumnVault$FilterReader", "askedBy", "(I)I"⟩, prog_3_method_10_code, 5, some (.int), [], 3, 1, 0, 0, 0, 0) := ⟨(zt_in (j := 3) (k := 193) rfl rfl), rfl, (zt_in (j := 1) (k := 16) rfl rfl), (zt_in (j := 3) (k := 192) rfl rfl), Or.inr (zt_in (j := 0) (k := 17) rfl rfl), by decide +kernel, by decide, fun h => absurd h (by decide)⟩
set_option maxRecDepth 100000 in
theorem zt_m_78 : zt_mOK (⟨"ColumnVault$FilterReader", "readValues", "(II)Z"⟩, prog_3_method_11_code, 6, some (.boolean), [], 3, 2, 0, 0, 0, 0) := ⟨(zt_in (j := 3) (k := 202) rfl rfl), rfl, (zt_in (j := 1) (k := 16) rfl rfl), (zt_in (j := 3) (k := 201) rfl rfl), Or.inr (zt_in (j := 0) (k := 18) rfl rfl), by decide +kernel, by decide, fun h => absurd h (by decide)⟩
set_option maxRecDepth 100000 in
theorem zt_m_79 : zt_mOK (⟨"ColumnVault$FilterReader", "isValueNext", "()Z"⟩, prog_3_method_12_code, 2, some (.boolean), [], 3, 0, 0, 0, 0, 0) := ⟨(zt_in (j := 3) (k := 206) rfl rfl), rfl, (zt_in (j := 1) (k := 16) rfl rfl), (zt_in (j := 3) (k := 205) rfl rfl), Or.inr (zt_in (j := 0) (k := 19) rfl rfl), by decide +kernel, by decide, fun h => absurd h (by decide)⟩
set_option maxRecDepth 100000 in
theorem zt_m_80 : zt_mOK (⟨"ColumnVault$FilterReader", "readValue", "(I)Z"⟩, prog_3_method_13_code, 6, some (.boolean), [], 3, 1, 0, 0, 0, 0) := ⟨(zt_in (j := 3) (k := 210) rfl rfl), rfl, (zt_in (j := 1) (k := 16) rfl rfl), (zt_in (j := 3) (k := 209) rfl rfl), Or.inr (zt_in (j := 0) (k := 20) rfl rfl), by decide +kernel, by decide, fun h => absurd h (by decide)⟩
set_option maxRecDepth 100000 in
theorem zt_m_81 : zt_mOK (⟨"ColumnVault$FilterReader", "rowsOfTest", "(II)J"⟩, prog_3_method_14_code, 6, some (.long), [], 3, 2, 0, 0, 0, 0) := ⟨(zt_in (j := 3) (k := 216) rfl rfl), rfl, (zt_in (j := 1) (k := 16) rfl rfl), (zt_in (j := 3) (k := 215) rfl rfl), Or.inr (zt_in (j := 0) (k := 21) rfl rfl), by decide +kernel, by decide, fun h => absurd h (by decide)⟩
set_option maxRecDepth 100000 in
theorem zt_m_82 : zt_mOK (⟨"ColumnVault$Node", "turn", "(J)V"⟩, prog_8_method_2_code, 3, none, [], 8, 1, 0, 0, 0, 0) := ⟨(zt_in (j := 3) (k := 223) rfl rfl), rfl, (zt_in (j := 1) (k := 18) rfl rfl), (zt_in (j := 3) (k := 221) rfl rfl), Or.inr (zt_in (j := 3) (k := 222) rfl rfl), by decide +kernel, by decide, fun h => absurd h (by decide)⟩
set_option maxRecDepth 100000 in
theorem zt_m_83 : zt_mOK (⟨"ColumnVault$Node", "put", "(LColumnVault$Node;)V"⟩, prog_8_method_3_code, 2, none, [], 8, 1, 0, 0, 0, 0) := ⟨(zt_in (j := 3) (k := 228) rfl rfl), rfl, (zt_in (j := 1) (k := 18) rfl rfl), (zt_in (j := 3) (k := 226) rfl rfl), Or.inr (zt_in (j := 3) (k := 227) rfl rfl), by decide +kernel, by decide, fun h => absurd h (by decide)⟩
set_option maxRecDepth 100000 in
theorem zt_m_84 : zt_mOK (⟨"ColumnVault$Node", "putByCounts", "(LColumnVault$Node;)V"⟩, prog_8_method_4_code, 4, none, [], 8, 1, 0, 0, 0, 0) := ⟨(zt_in (j := 3) (k := 232) rfl rfl), rfl, (zt_in (j := 1) (k := 18) rfl rfl), (zt_in (j := 3) (k := 231) rfl rfl), Or.inr (zt_in (j := 0) (k := 22) rfl rfl), by decide +kernel, by decide, fun h => absurd h (by decide)⟩
set_option maxRecDepth 100000 in
theorem zt_m_85 : zt_mOK (⟨"ColumnVault$Node", "isFirst", "(LColumnVault$Node;LColumnVault$Node;)Z"⟩, prog_8_method_5_code, 5, some (.boolean), [], 8, 2, 0, 0, 0, 0) := ⟨(zt_in (j := 3) (k := 236) rfl rfl), rfl, (zt_in (j := 1) (k := 18) rfl rfl), (zt_in (j := 3) (k := 235) rfl rfl), Or.inr (zt_in (j := 0) (k := 23) rfl rfl), by decide +kernel, by decide, fun h => absurd h (by decide)⟩
set_option maxRecDepth 100000 in
theorem zt_m_86 : zt_mOK (⟨"ColumnVault", "count", "(I)I"⟩, prog_1_method_18_code, 2, some (.int), [], 12, 1, 0, 0, 0, 0) := ⟨(zt_in (j := 4) (k := 3) rfl rfl), rfl, (zt_in (j := 1) (k := 1) rfl rfl), (zt_in (j := 4) (k := 1) rfl rfl), Or.inr (zt_in (j := 4) (k := 2) rfl rfl), by decide +kernel, by decide, fun h => absurd h (by decide)⟩
set_option maxRecDepth 100000 in
theorem zt_m_87 : zt_mOK (⟨"ColumnVault", "join", "(IIIII)I"⟩, prog_1_method_25_code, 8, some (.int), [], 12, 5, 0, 0, 0, 0) := ⟨(zt_in (j := 4) (k := 7) rfl rfl), rfl, (zt_in (j := 1) (k := 1) rfl rfl), (zt_in (j := 4) (k := 5) rfl rfl), Or.inr (zt_in (j := 4) (k := 6) rfl rfl), by decide +kernel, by decide, fun h => absurd h (by decide)⟩
set_option maxRecDepth 100000 in
theorem zt_m_88 : zt_mOK (⟨"ColumnVault", "requireSameKind", "(II)V"⟩, prog_1_method_52_code, 2, none, [], 12, 2, 0, 1, 99999, 0) := ⟨(zt_in (j := 4) (k := 10) rfl rfl), rfl, (zt_in (j := 1) (k := 1) rfl rfl), (zt_in (j := 4) (k := 9) rfl rfl), Or.inl rfl, by decide +kernel, by decide, fun h => absurd h (by decide)⟩
set_option maxRecDepth 100000 in
theorem zt_m_89 : zt_mOK (⟨"ColumnVault$Pairs", "make", "(LColumnVault$Sheet;ILColumnVault$Sheet;II)V"⟩, prog_9_method_2_code, 11, none, [], 9, 5, 0, 0, 0, 0) := ⟨(zt_in (j := 4) (k := 16) rfl rfl), rfl, (zt_in (j := 1) (k := 6) rfl rfl), (zt_in (j := 4) (k := 14) rfl rfl), Or.inr (zt_in (j := 4) (k := 15) rfl rfl), by decide +kernel, by decide, fun h => absurd h (by decide)⟩
set_option maxRecDepth 100000 in
theorem zt_m_90 : zt_mOK (⟨"ColumnVault", "holdsRow", "(JI)Z"⟩, prog_1_method_60_code, 3, some (.boolean), [], 12, 2, 0, 1, 99999, 0) := ⟨(zt_in (j := 4) (k := 19) rfl rfl), rfl, (zt_in (j := 1) (k := 1) rfl rfl), (zt_in (j := 4) (k := 18) rfl rfl), Or.inl rfl, by decide +kernel, by decide, fun h => absurd h (by decide)⟩
set_option maxRecDepth 100000 in
theorem zt_m_91 : zt_mOK (⟨"ColumnVault$Pairs", "putRow", "(IJI)V"⟩, prog_9_method_3_code, 6, none, [], 9, 3, 0, 0, 0, 0) := ⟨(zt_in (j := 4) (k := 26) rfl rfl), rfl, (zt_in (j := 1) (k := 6) rfl rfl), (zt_in (j := 4) (k := 25) rfl rfl), Or.inr (zt_in (j := 0) (k := 24) rfl rfl), by decide +kernel, by decide, fun h => absurd h (by decide)⟩
set_option maxRecDepth 100000 in
theorem zt_m_92 : zt_mOK (⟨"ColumnVault$Pairs", "put", "(II)V"⟩, prog_9_method_4_code, 3, none, [], 9, 2, 0, 0, 0, 0) := ⟨(zt_in (j := 4) (k := 30) rfl rfl), rfl, (zt_in (j := 1) (k := 6) rfl rfl), (zt_in (j := 4) (k := 29) rfl rfl), Or.inr (zt_in (j := 0) (k := 25) rfl rfl), by decide +kernel, by decide, fun h => absurd h (by decide)⟩
set_option maxRecDepth 100000 in
theorem zt_m_93 : zt_mOK (⟨"ColumnVault", "pairAt", "(IZ)I"⟩, prog_1_method_26_code, 3, some (.int), [], 12, 2, 0, 0, 0, 0) := ⟨(zt_in (j := 4) (k := 34) rfl rfl), rfl, (zt_in (j := 1) (k := 1) rfl rfl), (zt_in (j := 4) (k := 32) rfl rfl), Or.inr (zt_in (j := 4) (k := 33) rfl rfl), by decide +kernel, by decide, fun h => absurd h (by decide)⟩
set_option maxRecDepth 100000 in
theorem zt_m_94 : zt_mOK (⟨"ColumnVault$Pairs", "rowOf", "(IZ)I"⟩, prog_9_method_5_code, 3, some (.int), [], 9, 2, 0, 0, 0, 0) := ⟨(zt_in (j := 4) (k := 39) rfl rfl), rfl, (zt_in (j := 1) (k := 6) rfl rfl), (zt_in (j := 4) (k := 37) rfl rfl), Or.inr (zt_in (j := 4) (k := 38) rfl rfl), by decide +kernel, by decide, fun h => absurd h (by decide)⟩
set_option maxRecDepth 100000 in
theorem zt_m_95 : zt_mOK (⟨"ColumnVault", "groupAt", "(II)J"⟩, prog_1_method_29_code, 3, some (.long), [], 12, 2, 0, 0, 0, 0) := ⟨(zt_in (j := 4) (k := 43) rfl rfl), rfl, (zt_in (j := 1) (k := 1) rfl rfl), (zt_in (j := 4) (k := 41) rfl rfl), Or.inr (zt_in (j := 4) (k := 42) rfl rfl), by decide +kernel, by decide, fun h => absurd h (by decide)⟩
set_option maxRecDepth 100000 in
theorem zt_m_96 : zt_mOK (⟨"ColumnVault", "requireGroup", "(I)V"⟩, prog_1_method_46_code, 2, none, [], 12, 1, 0, 0, 0, 0) := ⟨(zt_in (j := 4) (k := 47) rfl rfl), rfl, (zt_in (j := 1) (k := 1) rfl rfl), (zt_in (j := 4) (k := 46) rfl rfl), Or.inr (zt_in (j := 0) (k := 26) rfl rfl), by decide +kernel, by decide, fun h => absurd h (by decide)⟩
set_option maxRecDepth 100000 in
theorem zt_m_97 : zt_mOK (⟨"ColumnVault$Groups", "valueAt", "(I)J"⟩, prog_5_method_6_code, 2, some (.long), [], 5, 1, 0, 0, 0, 0) := ⟨(zt_in (j := 4) (k := 52) rfl rfl), rfl, (zt_in (j := 1) (k := 7) rfl rfl), (zt_in (j := 4) (k := 50) rfl rfl), Or.inr (zt_in (j := 4) (k := 51) rfl rfl), by decide +kernel, by decide, fun h => absurd h (by decide)⟩
set_option maxRecDepth 100000 in
theorem zt_m_98 : zt_mOK (⟨"ColumnVault$Groups", "keyOfGroup", "(I)J"⟩, prog_5_method_5_code, 2, some (.long), [], 5, 1, 0, 0, 0, 0) := ⟨(zt_in (j := 4) (k := 57) rfl rfl), rfl, (zt_in (j := 1) (k := 7) rfl rfl), (zt_in (j := 4) (k := 55) rfl rfl), Or.inr (zt_in (j := 4) (k := 56) rfl rfl), by decide +kernel, by decide, fun h => absurd h (by decide)⟩
set_option maxRecDepth 100000 in
theorem zt_m_99 : zt_mOK (⟨"ColumnVault$Groups", "rowsIn", "(I)J"⟩, prog_5_method_7_code, 2, some (.long), [], 5, 1, 0, 0, 0, 0) := ⟨(zt_in (j := 4) (k := 63) rfl rfl), rfl, (zt_in (j := 1) (k := 7) rfl rfl), (zt_in (j := 4) (k := 61) rfl rfl), Or.inr (zt_in (j := 4) (k := 62) rfl rfl), by decide +kernel, by decide, fun h => absurd h (by decide)⟩
set_option maxRecDepth 100000 in
theorem zt_m_100 : zt_mOK (⟨"ColumnVault$Sheet", "firstOf", "(J)I"⟩, prog_10_method_19_code, 4, some (.int), [], 10, 1, 0, 0, 0, 0) := ⟨(zt_in (j := 4) (k := 67) rfl rfl), rfl, (zt_in (j := 1) (k := 3) rfl rfl), (zt_in (j := 4) (k := 65) rfl rfl), Or.inr (zt_in (j := 4) (k := 66) rfl rfl), by decide +kernel, by decide, fun h => absurd h (by decide)⟩
set_option maxRecDepth 100000 in
theorem zt_m_101 : zt_mOK (⟨"ColumnVault$Sheet", "lastOf", "(J)I"⟩, prog_10_method_20_code, 4, some (.int), [], 10, 1, 0, 0, 0, 0) := ⟨(zt_in (j := 4) (k := 72) rfl rfl), rfl, (zt_in (j := 1) (k := 3) rfl rfl), (zt_in (j := 4) (k := 70) rfl rfl), Or.inr (zt_in (j := 4) (k := 71) rfl rfl), by decide +kernel, by decide, fun h => absurd h (by decide)⟩
set_option maxRecDepth 100000 in
theorem zt_m_102 : zt_mOK (⟨"ColumnVault", "total", "(III)J"⟩, prog_1_method_30_code, 5, some (.long), [], 12, 3, 0, 0, 0, 0) := ⟨(zt_in (j := 4) (k := 77) rfl rfl), rfl, (zt_in (j := 1) (k := 1) rfl rfl), (zt_in (j := 4) (k := 75) rfl rfl), Or.inr (zt_in (j := 4) (k := 76) rfl rfl), by decide +kernel, by decide, fun h => absurd h (by decide)⟩
set_option maxRecDepth 100000 in
theorem zt_m_103 : zt_mOK (⟨"ColumnVault", "totalOf", "(LColumnVault$Sheet;IJI)J"⟩, prog_1_method_62_code, 8, some (.long), [], 12, 4, 0, 1, 99999, 0) := ⟨(zt_in (j := 4) (k := 80) rfl rfl), rfl, (zt_in (j := 1) (k := 1) rfl rfl), (zt_in (j := 4) (k := 79) rfl rfl), Or.inl rfl, by decide +kernel, by decide, fun h => absurd h (by decide)⟩
set_option maxRecDepth 100000 in
theorem zt_m_104 : zt_mOK (⟨"ColumnVault$Sheet", "knownRows", "(I)J"⟩, prog_10_method_23_code, 2, some (.long), [], 10, 1, 0, 0, 0, 0) := ⟨(zt_in (j := 4) (k := 85) rfl rfl), rfl, (zt_in (j := 1) (k := 3) rfl rfl), (zt_in (j := 4) (k := 83) rfl rfl), Or.inr (zt_in (j := 4) (k := 84) rfl rfl), by decide +kernel, by decide, fun h => absurd h (by decide)⟩
set_option maxRecDepth 100000 in
theorem zt_m_105 : zt_mOK (⟨"ColumnVault$Sheet", "sumOf", "(IJ)J"⟩, prog_10_method_27_code, 9, some (.long), [], 10, 2, 0, 0, 0, 0) := ⟨(zt_in (j := 4) (k := 91) rfl rfl), rfl, (zt_in (j := 1) (k := 3) rfl rfl), (zt_in (j := 4) (k := 89) rfl rfl), Or.inr (zt_in (j := 4) (k := 90) rfl rfl), by decide +kernel, by decide, fun h => absurd h (by decide)⟩
set_option maxRecDepth 100000 in
theorem zt_m_106 : zt_mOK (⟨"ColumnVault$Sheet", "risingRows", "(IJ)[I"⟩, prog_10_method_28_code, 12, some (.array (.int)), [], 10, 2, 0, 0, 0, 0) := ⟨(zt_in (j := 4) (k := 95) rfl rfl), rfl, (zt_in (j := 1) (k := 3) rfl rfl), (zt_in (j := 4) (k := 93) rfl rfl), Or.inr (zt_in (j := 4) (k := 94) rfl rfl), by decide +kernel, by decide, fun h => absurd h (by decide)⟩
set_option maxRecDepth 100000 in
theorem zt_m_107 : zt_mOK (⟨"ColumnVault$Sheet", "differentKeys", "(I[I)I"⟩, prog_10_method_29_code, 5, some (.int), [], 10, 2, 0, 0, 0, 0) := ⟨(zt_in (j := 4) (k := 100) rfl rfl), rfl, (zt_in (j := 1) (k := 3) rfl rfl), (zt_in (j := 4) (k := 98) rfl rfl), Or.inr (zt_in (j := 4) (k := 99) rfl rfl), by decide +kernel, by decide, fun h => absurd h (by decide)⟩
set_option maxRecDepth 100000 in
theorem zt_m_108 : zt_mOK (⟨"ColumnVault", "rank", "(IIII)I"⟩, prog_1_method_33_code, 8, some (.int), [], 12, 4, 0, 0, 0, 0) := ⟨(zt_in (j := 4) (k := 120) rfl rfl), rfl, (zt_in (j := 1) (k := 1) rfl rfl), (zt_in (j := 4) (k := 118) rfl rfl), Or.inr (zt_in (j := 4) (k := 119) rfl rfl), by decide +kernel, by decide, fun h => absurd h (by decide)⟩
set_option maxRecDepth 100000 in
theorem zt_m_109 : zt_mOK (⟨"ColumnVault", "between", "(IIJJ)I"⟩, prog_1_method_35_code, 9, some (.int), [], 12, 4, 0, 0, 0, 0) := ⟨(zt_in (j := 4) (k := 128) rfl rfl), rfl, (zt_in (j := 1) (k := 1) rfl rfl), (zt_in (j := 4) (k := 126) rfl rfl), Or.inr (zt_in (j := 4) (k := 127) rfl rfl), by decide +kernel, by decide, fun h => absurd h (by decide)⟩
set_option maxRecDepth 100000 in
theorem zt_m_110 : zt_mOK (⟨"ColumnVault", "nearest", "(IIJZ)J"⟩, prog_1_method_36_code, 10, some (.long), [], 12, 4, 0, 0, 0, 0) := ⟨(zt_in (j := 4) (k := 132) rfl rfl), rfl, (zt_in (j := 1) (k := 1) rfl rfl), (zt_in (j := 4) (k := 130) rfl rfl), Or.inr (zt_in (j := 4) (k := 131) rfl rfl), by decide +kernel, by decide, fun h => absurd h (by decide)⟩
set_option maxRecDepth 100000 in
theorem zt_m_111 : zt_mOK (⟨"ColumnVault$Sheet", "nearestKey", "(IJZ)J"⟩, prog_10_method_26_code, 11, some (.long), [], 10, 3, 0, 0, 0, 0) := ⟨(zt_in (j := 4) (k := 136) rfl rfl), rfl, (zt_in (j := 1) (k := 3) rfl rfl), (zt_in (j := 4) (k := 134) rfl rfl), Or.inr (zt_in (j := 4) (k := 135) rfl rfl), by decide +kernel, by decide, fun h => absurd h (by decide)⟩
set_option maxRecDepth 100000 in
theorem zt_m_112 : zt_mOK (⟨"ColumnVault", "type", "(J)I"⟩, prog_1_method_22_code, 3, some (.int), [], 12, 1, 0, 0, 0, 0) := ⟨(zt_in (j := 4) (k := 142) rfl rfl), rfl, (zt_in (j := 1) (k := 1) rfl rfl), (zt_in (j := 4) (k := 140) rfl rfl), Or.inr (zt_in (j := 4) (k := 141) rfl rfl), by decide +kernel, by decide, fun h => absurd h (by decide)⟩
set_option maxRecDepth 100000 in
theorem zt_m_113 : zt_mOK (⟨"ColumnVault", "bytesIn", "(J)I"⟩, prog_1_method_61_code, 4, some (.int), [], 12, 1, 0, 1, 99999, 0) := ⟨(zt_in (j := 4) (k := 145) rfl rfl), rfl, (zt_in (j := 1) (k := 1) rfl rfl), (zt_in (j := 4) (k := 144) rfl rfl), Or.inl rfl, by decide +kernel, by decide, fun h => absurd h (by decide)⟩
set_option maxRecDepth 100000 in
theorem zt_m_114 : zt_mOK (⟨"ColumnVault$FilterText", "appendBytes", "(J)V"⟩, prog_4_method_4_code, 4, none, [], 4, 1, 0, 0, 0, 0) := ⟨(zt_in (j := 4) (k := 150) rfl rfl), rfl, (zt_in (j := 1) (k := 4) rfl rfl), (zt_in (j := 4) (k := 148) rfl rfl), Or.inr (zt_in (j := 4) (k := 149) rfl rfl), by decide +kernel, by decide, fun h => absurd h (by decide)⟩
set_option maxRecDepth 100000 in
theorem zt_m_115 : zt_mOK (⟨"ColumnVault$FilterText", "append", "(I)V"⟩, prog_4_method_3_code, 2, none, [], 4, 1, 0, 0, 0, 0) := ⟨(zt_in (j := 4) (k := 155) rfl rfl), rfl, (zt_in (j := 1) (k := 4) rfl rfl), (zt_in (j := 4) (k := 154) rfl rfl), Or.inr (zt_in (j := 0) (k := 27) rfl rfl), by decide +kernel, by decide, fun h => absurd h (by decide)⟩
set_option maxRecDepth 100000 in
theorem zt_m_116 : zt_mOK (⟨"ColumnVault", "alike", "(III)I"⟩, prog_1_method_37_code, 6, some (.int), [], 12, 3, 0, 0, 0, 0) := ⟨(zt_in (j := 4) (k := 159) rfl rfl), rfl, (zt_in (j := 1) (k := 1) rfl rfl), (zt_in (j := 4) (k := 157) rfl rfl), Or.inr (zt_in (j := 4) (k := 158) rfl rfl), by decide +kernel, by decide, fun h => absurd h (by decide)⟩
set_option maxRecDepth 100000 in
theorem zt_m_117 : zt_mOK (⟨"ColumnVault$Sheet", "hasKindsOf", "(LColumnVault$Sheet;)Z"⟩, prog_10_method_5_code, 4, some (.boolean), [], 10, 1, 0, 0, 0, 0) := ⟨(zt_in (j := 4) (k := 163) rfl rfl), rfl, (zt_in (j := 1) (k := 3) rfl rfl), (zt_in (j := 4) (k := 161) rfl rfl), Or.inr (zt_in (j := 4) (k := 162) rfl rfl), by decide +kernel, by decide, fun h => absurd h (by decide)⟩
set_option maxRecDepth 100000 in
theorem zt_m_118 : zt_mOK (⟨"ColumnVault$Sheet", "rowsLeftBy", "(LColumnVault$Sheet;)I"⟩, prog_10_method_34_code, 7, some (.int), [], 10, 1, 0, 0, 0, 0) := ⟨(zt_in (j := 4) (k := 168) rfl rfl), rfl, (zt_in (j := 1) (k := 3) rfl rfl), (zt_in (j := 4) (k := 166) rfl rfl), Or.inr (zt_in (j := 4) (k := 167) rfl rfl), by decide +kernel, by decide, fun h => absurd h (by decide)⟩
set_option maxRecDepth 100000 in
theorem zt_m_119 : zt_mOK (⟨"ColumnVault$Sheet", "chosenAlike", "(ILColumnVault$Sheet;)J"⟩, prog_10_method_31_code, 6, some (.long), [], 10, 2, 0, 0, 0, 0) := ⟨(zt_in (j := 4) (k := 172) rfl rfl), rfl, (zt_in (j := 1) (k := 3) rfl rfl), (zt_in (j := 4) (k := 171) rfl rfl), Or.inr (zt_in (j := 0) (k := 28) rfl rfl), by decide +kernel, by decide, fun h => absurd h (by decide)⟩
set_option maxRecDepth 100000 in
theorem zt_m_120 : zt_mOK (⟨"ColumnVault$Sheet", "isAlike", "(ILColumnVault$Sheet;I)Z"⟩, prog_10_method_30_code, 5, some (.boolean), [], 10, 3, 0, 0, 0, 0) := ⟨(zt_in (j := 4) (k := 176) rfl rfl), rfl, (zt_in (j := 1) (k := 3) rfl rfl), (zt_in (j := 4) (k := 175) rfl rfl), Or.inr (zt_in (j := 0) (k := 29) rfl rfl), by decide +kernel, by decide, fun h => absurd h (by decide)⟩
set_option maxRecDepth 100000 in
theorem zt_m_121 : zt_mOK (⟨"ColumnVault$Sheet", "differentRows", "()J"⟩, prog_10_method_32_code, 4, some (.long), [], 10, 0, 0, 0, 0, 0) := ⟨(zt_in (j := 4) (k := 181) rfl rfl), rfl, (zt_in (j := 1) (k := 3) rfl rfl), (zt_in (j := 4) (k := 179) rfl rfl), Or.inr (zt_in (j := 4) (k := 180) rfl rfl), by decide +kernel, by decide, fun h => absurd h (by decide)⟩
set_option maxRecDepth 100000 in
theorem zt_m_122 : zt_mOK (⟨"ColumnVault$Sheet", "differentRowsOnlyHere", "(LColumnVault$Sheet;)I"⟩, prog_10_method_33_code, 6, some (.int), [], 10, 1, 0, 0, 0, 0) := ⟨(zt_in (j := 4) (k := 185) rfl rfl), rfl, (zt_in (j := 1) (k := 3) rfl rfl), (zt_in (j := 4) (k := 183) rfl rfl), Or.inr (zt_in (j := 4) (k := 184) rfl rfl), by decide +kernel, by decide, fun h => absurd h (by decide)⟩
set_option maxRecDepth 100000 in
theorem zt_m_123 : zt_mOK (⟨"ColumnVault", "groupTotal", "(III)J"⟩, prog_1_method_31_code, 4, some (.long), [], 12, 3, 0, 0, 0, 0) := ⟨(zt_in (j := 4) (k := 191) rfl rfl), rfl, (zt_in (j := 1) (k := 1) rfl rfl), (zt_in (j := 4) (k := 189) rfl rfl), Or.inr (zt_in (j := 4) (k := 190) rfl rfl), by decide +kernel, by decide, fun h => absurd h (by decide)⟩
set_option maxRecDepth 100000 in
theorem zt_m_124 : zt_mOK (⟨"ColumnVault", "running", "(III)J"⟩, prog_1_method_32_code, 5, some (.long), [], 12, 3, 0, 0, 0, 0) := ⟨(zt_in (j := 4) (k := 195) rfl rfl), rfl, (zt_in (j := 1) (k := 1) rfl rfl), (zt_in (j := 4) (k := 193) rfl rfl), Or.inr (zt_in (j := 4) (k := 194) rfl rfl), by decide +kernel, by decide, fun h => absurd h (by decide)⟩
set_option maxRecDepth 100000 in
theorem zt_m_125 : zt_mOK (⟨"ColumnVault", "requireNumbers", "(LColumnVault$Sheet;I)V"⟩, prog_1_method_51_code, 2, none, [], 12, 2, 0, 1, 99999, 0) := ⟨(zt_in (j := 4) (k := 198) rfl rfl), rfl, (zt_in (j := 1) (k := 1) rfl rfl), (zt_in (j := 4) (k := 197) rfl rfl), Or.inl rfl, by decide +kernel, by decide, fun h => absurd h (by decide)⟩
set_option maxRecDepth 100000 in
theorem zt_m_126 : zt_mOK (⟨"ColumnVault$Sheet", "rowsUpTo", "(I)J"⟩, prog_10_method_21_code, 5, some (.long), [], 10, 1, 0, 0, 0, 0) := ⟨(zt_in (j := 4) (k := 203) rfl rfl), rfl, (zt_in (j := 1) (k := 3) rfl rfl), (zt_in (j := 4) (k := 201) rfl rfl), Or.inr (zt_in (j := 4) (k := 202) rfl rfl), by decide +kernel, by decide, fun h => absurd h (by decide)⟩
set_option maxRecDepth 100000 in
theorem zt_m_127 : zt_mOK (⟨"ColumnVaultLaw", "draws", "(LColumnVault;[III)V"⟩, method_10_code, 9, none, [], 17, 4, 0, 1, 99999, 0) := ⟨(zt_in (j := 4) (k := 210) rfl rfl), rfl, (zt_in (j := 1) (k := 0) rfl rfl), (zt_in (j := 4) (k := 209) rfl rfl), Or.inl rfl, by decide +kernel, by decide, fun h => absurd h (by decide)⟩
set_option maxRecDepth 100000 in
theorem zt_m_128 : zt_mOK (⟨"ColumnVault", "kind", "(II)I"⟩, prog_1_method_9_code, 3, some (.int), [], 12, 2, 0, 0, 0, 0) := ⟨(zt_in (j := 4) (k := 214) rfl rfl), rfl, (zt_in (j := 1) (k := 1) rfl rfl), (zt_in (j := 4) (k := 212) rfl rfl), Or.inr (zt_in (j := 4) (k := 213) rfl rfl), by decide +kernel, by decide, fun h => absurd h (by decide)⟩
set_option maxRecDepth 100000 in
theorem zt_m_129 : zt_mOK (⟨"ColumnVaultLaw", "value", "([II)J"⟩, method_7_code, 2, some (.long), [], 17, 2, 0, 1, 99999, 0) := ⟨(zt_in (j := 4) (k := 217) rfl rfl), rfl, (zt_in (j := 1) (k := 0) rfl rfl), (zt_in (j := 4) (k := 216) rfl rfl), Or.inl rfl, by decide +kernel, by decide, fun h => absurd h (by decide)⟩
set_option maxRecDepth 100000 in
theorem zt_m_130 : zt_mOK (⟨"ColumnVaultLaw", "text", "([I)Ljava/lang/String;"⟩, method_4_code, 3, some (.object "java/lang/String"), [], 17, 1, 0, 1, 99999, 0) := ⟨(zt_in (j := 4) (k := 220) rfl rfl), rfl, (zt_in (j := 1) (k := 0) rfl rfl), (zt_in (j := 4) (k := 219) rfl rfl), Or.inl rfl, by decide +kernel, by decide, fun h => absurd h (by decide)⟩
set_option maxRecDepth 100000 in
theorem zt_m_131 : zt_mOK (⟨"java/lang/StringBuilder", "<init>", "()V"⟩, prog_32_method_1_code, 1, none, [], 1, 0, 0, 2, 99999, 0) := ⟨(zt_in (j := 4) (k := 225) rfl rfl), rfl, (zt_in (j := 1) (k := 23) rfl rfl), (zt_in (j := 4) (k := 224) rfl rfl), Or.inl rfl, by decide +kernel, by decide, fun _ => rfl⟩
set_option maxRecDepth 100000 in
theorem zt_m_132 : zt_mOK (⟨"java/lang/AbstractStringBuilder", "<init>", "(I)V"⟩, prog_17_method_2_code, 2, none, [], 20, 1, 0, 2, 99999, 0) := ⟨(zt_in (j := 4) (k := 228) rfl rfl), rfl, (zt_in (j := 1) (k := 22) rfl rfl), (zt_in (j := 4) (k := 227) rfl rfl), Or.inl rfl, by decide +kernel, by decide, fun _ => rfl⟩
set_option maxRecDepth 100000 in
theorem zt_m_133 : zt_mOK (⟨"java/lang/StringUTF16", "newBytesFor", "(I)[B"⟩, prog_34_method_2_code, 1, some (.array (.byte)), [], 21, 1, 0, 1, 99999, 0) := ⟨(zt_in (j := 4) (k := 234) rfl rfl), rfl, (zt_in (j := 1) (k := 25) rfl rfl), (zt_in (j := 4) (k := 233) rfl rfl), Or.inl rfl, by decide +kernel, by decide, fun h => absurd h (by decide)⟩
set_option maxRecDepth 100000 in
theorem zt_m_134 : zt_mOK (⟨"java/lang/StringUTF16", "newBytesLength", "(I)I"⟩, prog_34_method_3_code, 1, some (.int), [], 21, 1, 0, 1, 99999, 0) := ⟨(zt_in (j := 4) (k := 237) rfl rfl), rfl, (zt_in (j := 1) (k := 25) rfl rfl), (zt_in (j := 4) (k := 236) rfl rfl), Or.inl rfl, by decide +kernel, by decide, fun h => absurd h (by decide)⟩
set_option maxRecDepth 100000 in
theorem zt_m_135 : zt_mOK (⟨"java/lang/StringBuilder", "append", "(C)Ljava/lang/StringBuilder;"⟩, prog_32_method_14_code, 2, some (.object "java/lang/StringBuilder"), [], 1, 1, 0, 0, 0, 0) := ⟨(zt_in (j := 5) (k := 15) rfl rfl), rfl, (zt_in (j := 1) (k := 23) rfl rfl), (zt_in (j := 5) (k := 13) rfl rfl), Or.inr (zt_in (j := 5) (k := 14) rfl rfl), by decide +kernel, by decide, fun h => absurd h (by decide)⟩
set_option maxRecDepth 100000 in
theorem zt_m_136 : zt_mOK (⟨"java/lang/AbstractStringBuilder", "append", "(C)Ljava/lang/AbstractStringBuilder;"⟩, prog_17_method_31_code, 2, some (.object "java/lang/AbstractStringBuilder"), [], 20, 1, 0, 0, 99999, 0) := ⟨(zt_in (j := 5) (k := 18) rfl rfl), rfl, (zt_in (j := 1) (k := 22) rfl rfl), (zt_in (j := 5) (k := 17) rfl rfl), Or.inl rfl, by decide +kernel, by decide, fun h => absurd h (by decide)⟩
set_option maxRecDepth 100000 in
theorem zt_m_137 : zt_mOK (⟨"java/lang/AbstractStringBuilder", "ensureCapacityInternal", "(I)V"⟩, prog_17_method_9_code, 3, none, [], 20, 1, 0, 0, 99999, 0) := ⟨(zt_in (j := 5) (k := 22) rfl rfl), rfl, (zt_in (j := 1) (k := 22) rfl rfl), (zt_in (j := 5) (k := 21) rfl rfl), Or.inl rfl, by decide +kernel, by decide, fun h => absurd h (by decide)⟩
set_option maxRecDepth 100000 in
theorem zt_m_138 : zt_mOK (⟨"java/lang/AbstractStringBuilder", "newCapacity", "(I)I"⟩, prog_17_method_10_code, 6, some (.int), [], 20, 1, 0, 0, 99999, 0) := ⟨(zt_in (j := 5) (k := 26) rfl rfl), rfl, (zt_in (j := 1) (k := 22) rfl rfl), (zt_in (j := 5) (k := 25) rfl rfl), Or.inl rfl, by decide +kernel, by decide, fun h => absurd h (by decide)⟩
set_option maxRecDepth 100000 in
theorem zt_m_139 : zt_mOK (⟨"jdk/internal/util/ArraysSupport", "newLength", "(III)I"⟩, prog_43_method_27_code, 4, some (.int), [], 22, 3, 0, 1, 99999, 0) := ⟨(zt_in (j := 5) (k := 29) rfl rfl), rfl, (zt_in (j := 1) (k := 26) rfl rfl), (zt_in (j := 5) (k := 28) rfl rfl), Or.inl rfl, by decide +kernel, by decide, fun h => absurd h (by decide)⟩
set_option maxRecDepth 100000 in
theorem zt_m_140 : zt_mOK (⟨"jdk/internal/util/ArraysSupport", "hugeLength", "(II)I"⟩, prog_43_method_28_code, 3, some (.int), [], 22, 2, 0, 1, 99999, 0) := ⟨(zt_in (j := 5) (k := 34) rfl rfl), rfl, (zt_in (j := 1) (k := 26) rfl rfl), (zt_in (j := 5) (k := 33) rfl rfl), Or.inl rfl, by decide +kernel, by decide, fun h => absurd h (by decide)⟩
set_option maxRecDepth 100000 in
theorem zt_m_141 : zt_mOK (⟨"java/util/Arrays", "copyOf", "([BI)[B"⟩, prog_39_method_121_code, 3, some (.array (.byte)), [], 23, 2, 0, 1, 99999, 0) := ⟨(zt_in (j := 5) (k := 38) rfl rfl), rfl, (zt_in (j := 1) (k := 27) rfl rfl), (zt_in (j := 5) (k := 37) rfl rfl), Or.inl rfl, by decide +kernel, by decide, fun h => absurd h (by decide)⟩
set_option maxRecDepth 100000 in
theorem zt_m_142 : zt_mOK (⟨"java/lang/Math", "min", "(II)I"⟩, prog_28_method_69_code, 2, some (.int), [], 19, 2, 0, 1, 99999, 0) := ⟨(zt_in (j := 5) (k := 48) rfl rfl), rfl, (zt_in (j := 1) (k := 17) rfl rfl), (zt_in (j := 5) (k := 47) rfl rfl), Or.inl rfl, by decide +kernel, by decide, fun h => absurd h (by decide)⟩
set_option maxRecDepth 100000 in
theorem zt_m_143 : zt_mOK (⟨"java/lang/AbstractStringBuilder", "isLatin1", "()Z"⟩, prog_17_method_68_code, 1, some (.boolean), [], 20, 0, 0, 0, 99999, 0) := ⟨(zt_in (j := 5) (k := 54) rfl rfl), rfl, (zt_in (j := 1) (k := 22) rfl rfl), (zt_in (j := 5) (k := 51) rfl rfl), Or.inl rfl, by decide +kernel, by decide, fun h => absurd h (by decide)⟩
