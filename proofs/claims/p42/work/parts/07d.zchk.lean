set_option maxRecDepth 100000 in
theorem zt_m_248 : zt_mOK (⟨"ColumnVault$Checks", "standsAhead", "(LColumnVault$Sheet;IIII)Z"⟩, prog_2_method_4_code, 10, some (.boolean), [], 2, 5, 0, 0, 0, 0) := ⟨(zt_in (j := 7) (k := 30) rfl rfl), rfl, (zt_in (j := 1) (k := 8) rfl rfl), (zt_in (j := 7) (k := 29) rfl rfl), Or.inr (zt_in (j := 0) (k := 32) rfl rfl), by decide +kernel, by decide, fun h => absurd h (by decide)⟩
set_option maxRecDepth 100000 in
theorem zt_m_249 : zt_mOK (⟨"ColumnVault$Checks", "groupFailures", "(LColumnVault$Sheet;I)I"⟩, prog_2_method_5_code, 6, some (.int), [], 2, 2, 0, 0, 0, 0) := ⟨(zt_in (j := 7) (k := 39) rfl rfl), rfl, (zt_in (j := 1) (k := 8) rfl rfl), (zt_in (j := 7) (k := 38) rfl rfl), Or.inr (zt_in (j := 0) (k := 33) rfl rfl), by decide +kernel, by decide, fun h => absurd h (by decide)⟩
set_option maxRecDepth 100000 in
theorem zt_m_250 : zt_mOK (⟨"ColumnVault$Groups", "make", "(LColumnVault$Sheet;I)V"⟩, prog_5_method_2_code, 4, none, [], 5, 2, 0, 0, 0, 0) := ⟨(zt_in (j := 7) (k := 43) rfl rfl), rfl, (zt_in (j := 1) (k := 7) rfl rfl), (zt_in (j := 7) (k := 41) rfl rfl), Or.inr (zt_in (j := 7) (k := 42) rfl rfl), by decide +kernel, by decide, fun h => absurd h (by decide)⟩
set_option maxRecDepth 100000 in
theorem zt_m_251 : zt_mOK (⟨"ColumnVault$Groups", "put", "(I)V"⟩, prog_5_method_3_code, 5, none, [], 5, 1, 0, 0, 0, 0) := ⟨(zt_in (j := 7) (k := 49) rfl rfl), rfl, (zt_in (j := 1) (k := 7) rfl rfl), (zt_in (j := 7) (k := 48) rfl rfl), Or.inr (zt_in (j := 0) (k := 34) rfl rfl), by decide +kernel, by decide, fun h => absurd h (by decide)⟩
set_option maxRecDepth 100000 in
theorem zt_m_252 : zt_mOK (⟨"ColumnVault$Groups", "open", "(IJ)V"⟩, prog_5_method_4_code, 5, none, [], 5, 2, 0, 0, 0, 0) := ⟨(zt_in (j := 7) (k := 55) rfl rfl), rfl, (zt_in (j := 1) (k := 7) rfl rfl), (zt_in (j := 7) (k := 54) rfl rfl), Or.inr (zt_in (j := 0) (k := 35) rfl rfl), by decide +kernel, by decide, fun h => absurd h (by decide)⟩
set_option maxRecDepth 100000 in
theorem zt_m_253 : zt_mOK (⟨"ColumnVault$Checks", "sumOfGroups", "(I)J"⟩, prog_2_method_6_code, 5, some (.long), [], 2, 1, 0, 0, 0, 0) := ⟨(zt_in (j := 7) (k := 62) rfl rfl), rfl, (zt_in (j := 1) (k := 8) rfl rfl), (zt_in (j := 7) (k := 61) rfl rfl), Or.inr (zt_in (j := 0) (k := 36) rfl rfl), by decide +kernel, by decide, fun h => absurd h (by decide)⟩
set_option maxRecDepth 100000 in
theorem zt_m_254 : zt_mOK (⟨"ColumnVault$Checks", "rangeFailures", "(LColumnVault$Sheet;I)I"⟩, prog_2_method_7_code, 5, some (.int), [], 2, 2, 0, 0, 0, 0) := ⟨(zt_in (j := 7) (k := 67) rfl rfl), rfl, (zt_in (j := 1) (k := 8) rfl rfl), (zt_in (j := 7) (k := 66) rfl rfl), Or.inr (zt_in (j := 0) (k := 37) rfl rfl), by decide +kernel, by decide, fun h => absurd h (by decide)⟩
set_option maxRecDepth 100000 in
theorem zt_m_255 : zt_mOK (⟨"ColumnVault$Checks", "failuresFrom", "(IJ)I"⟩, prog_2_method_8_code, 7, some (.int), [], 2, 2, 0, 0, 0, 0) := ⟨(zt_in (j := 7) (k := 76) rfl rfl), rfl, (zt_in (j := 1) (k := 8) rfl rfl), (zt_in (j := 7) (k := 75) rfl rfl), Or.inr (zt_in (j := 0) (k := 38) rfl rfl), by decide +kernel, by decide, fun h => absurd h (by decide)⟩
set_option maxRecDepth 100000 in
theorem zt_m_256 : zt_mOK (⟨"ColumnVaultLaw", "isFilter", "(LColumnVault;[II)Z"⟩, method_23_code, 12, some (.boolean), [], 17, 3, 0, 1, 99999, 0) := ⟨(zt_in (j := 7) (k := 79) rfl rfl), rfl, (zt_in (j := 1) (k := 0) rfl rfl), (zt_in (j := 7) (k := 78) rfl rfl), Or.inl rfl, by decide +kernel, by decide, fun h => absurd h (by decide)⟩
set_option maxRecDepth 100000 in
theorem zt_m_257 : zt_mOK (⟨"java/lang/StringBuilder", "<init>", "(Ljava/lang/String;)V"⟩, prog_32_method_3_code, 2, none, [], 1, 1, 0, 2, 99999, 0) := ⟨(zt_in (j := 7) (k := 84) rfl rfl), rfl, (zt_in (j := 1) (k := 23) rfl rfl), (zt_in (j := 7) (k := 83) rfl rfl), Or.inl rfl, by decide +kernel, by decide, fun _ => rfl⟩
set_option maxRecDepth 100000 in
theorem zt_m_258 : zt_mOK (⟨"java/lang/AbstractStringBuilder", "<init>", "(Ljava/lang/String;)V"⟩, prog_17_method_3_code, 5, none, [], 20, 1, 0, 2, 99999, 0) := ⟨(zt_in (j := 7) (k := 87) rfl rfl), rfl, (zt_in (j := 1) (k := 22) rfl rfl), (zt_in (j := 7) (k := 86) rfl rfl), Or.inl rfl, by decide +kernel, by decide, fun _ => rfl⟩
set_option maxRecDepth 100000 in
theorem zt_m_259 : zt_mOK (⟨"java/lang/StringBuilder", "append", "(Ljava/lang/String;)Ljava/lang/AbstractStringBuilder;"⟩, prog_32_method_80_code, 2, some (.object "java/lang/AbstractStringBuilder"), [], 1, 1, 0, 0, 99999, 0) := ⟨(zt_in (j := 7) (k := 91) rfl rfl), rfl, (zt_in (j := 1) (k := 23) rfl rfl), (zt_in (j := 7) (k := 90) rfl rfl), Or.inl rfl, by decide +kernel, by decide, fun h => absurd h (by decide)⟩
set_option maxRecDepth 100000 in
theorem zt_m_260 : zt_mOK (⟨"ColumnVaultLaw", "filter", "([ILColumnVault;ILjava/lang/StringBuilder;I[I)[Z"⟩, method_20_code, 13, some (.array (.boolean)), [], 17, 6, 0, 1, 99999, 0) := ⟨(zt_in (j := 7) (k := 95) rfl rfl), rfl, (zt_in (j := 1) (k := 0) rfl rfl), (zt_in (j := 7) (k := 94) rfl rfl), Or.inl rfl, by decide +kernel, by decide, fun h => absurd h (by decide)⟩
set_option maxRecDepth 100000 in
theorem zt_m_261 : zt_mOK (⟨"ColumnVaultLaw", "piece", "([ILColumnVault;ILjava/lang/StringBuilder;I[I)[Z"⟩, method_19_code, 10, some (.array (.boolean)), [], 17, 6, 0, 1, 99999, 0) := ⟨(zt_in (j := 7) (k := 101) rfl rfl), rfl, (zt_in (j := 1) (k := 0) rfl rfl), (zt_in (j := 7) (k := 100) rfl rfl), Or.inl rfl, by decide +kernel, by decide, fun h => absurd h (by decide)⟩
set_option maxRecDepth 100000 in
theorem zt_m_262 : zt_mOK (⟨"ColumnVaultLaw", "test", "([ILColumnVault;ILjava/lang/StringBuilder;[I)[Z"⟩, method_18_code, 16, some (.array (.boolean)), [], 17, 5, 0, 1, 99999, 0) := ⟨(zt_in (j := 7) (k := 108) rfl rfl), rfl, (zt_in (j := 1) (k := 0) rfl rfl), (zt_in (j := 7) (k := 107) rfl rfl), Or.inl rfl, by decide +kernel, by decide, fun h => absurd h (by decide)⟩
set_option maxRecDepth 100000 in
theorem zt_m_263 : zt_mOK (⟨"java/lang/StringBuilder", "append", "(J)Ljava/lang/StringBuilder;"⟩, prog_32_method_16_code, 3, some (.object "java/lang/StringBuilder"), [], 1, 1, 0, 0, 0, 0) := ⟨(zt_in (j := 7) (k := 120) rfl rfl), rfl, (zt_in (j := 1) (k := 23) rfl rfl), (zt_in (j := 7) (k := 118) rfl rfl), Or.inr (zt_in (j := 7) (k := 119) rfl rfl), by decide +kernel, by decide, fun h => absurd h (by decide)⟩
set_option maxRecDepth 100000 in
theorem zt_m_264 : zt_mOK (⟨"java/lang/AbstractStringBuilder", "append", "(J)Ljava/lang/AbstractStringBuilder;"⟩, prog_17_method_33_code, 5, some (.object "java/lang/AbstractStringBuilder"), [], 20, 1, 0, 0, 99999, 0) := ⟨(zt_in (j := 7) (k := 123) rfl rfl), rfl, (zt_in (j := 1) (k := 22) rfl rfl), (zt_in (j := 7) (k := 122) rfl rfl), Or.inl rfl, by decide +kernel, by decide, fun h => absurd h (by decide)⟩
set_option maxRecDepth 100000 in
theorem zt_m_265 : zt_mOK (⟨"java/lang/Long", "stringSize", "(J)I"⟩, prog_27_method_15_code, 6, some (.int), [], 18, 1, 0, 1, 99999, 0) := ⟨(zt_in (j := 7) (k := 126) rfl rfl), rfl, (zt_in (j := 1) (k := 20) rfl rfl), (zt_in (j := 7) (k := 125) rfl rfl), Or.inl rfl, by decide +kernel, by decide, fun h => absurd h (by decide)⟩
set_option maxRecDepth 100000 in
theorem zt_m_266 : zt_mOK (⟨"java/lang/Long", "getChars", "(JI[B)I"⟩, prog_27_method_14_code, 11, some (.int), [], 18, 3, 0, 1, 99999, 0) := ⟨(zt_in (j := 7) (k := 131) rfl rfl), rfl, (zt_in (j := 1) (k := 20) rfl rfl), (zt_in (j := 7) (k := 130) rfl rfl), Or.inl rfl, by decide +kernel, by decide, fun h => absurd h (by decide)⟩
set_option maxRecDepth 100000 in
theorem zt_m_267 : zt_mOK (⟨"java/lang/StringUTF16", "getChars", "(JII[B)I"⟩, prog_34_method_78_code, 6, some (.int), [], 21, 4, 0, 1, 99999, 0) := ⟨(zt_in (j := 7) (k := 138) rfl rfl), rfl, (zt_in (j := 1) (k := 25) rfl rfl), (zt_in (j := 7) (k := 137) rfl rfl), Or.inl rfl, by decide +kernel, by decide, fun h => absurd h (by decide)⟩
set_option maxRecDepth 100000 in
theorem zt_m_268 : zt_mOK (⟨"java/lang/StringUTF16", "getChars", "(JI[B)I"⟩, prog_34_method_90_code, 11, some (.int), [], 21, 3, 0, 1, 99999, 0) := ⟨(zt_in (j := 7) (k := 141) rfl rfl), rfl, (zt_in (j := 1) (k := 25) rfl rfl), (zt_in (j := 7) (k := 140) rfl rfl), Or.inl rfl, by decide +kernel, by decide, fun h => absurd h (by decide)⟩
set_option maxRecDepth 100000 in
theorem zt_m_269 : zt_mOK (⟨"ColumnVaultLaw", "says", "(LColumnVault;Ljava/lang/CharSequence;)V"⟩, method_21_code, 5, none, [], 17, 2, 0, 1, 99999, 0) := ⟨(zt_in (j := 7) (k := 149) rfl rfl), rfl, (zt_in (j := 1) (k := 0) rfl rfl), (zt_in (j := 7) (k := 148) rfl rfl), Or.inl rfl, by decide +kernel, by decide, fun h => absurd h (by decide)⟩
set_option maxRecDepth 100000 in
theorem zt_m_270 : zt_mOK (⟨"ColumnVault", "clearText", "()I"⟩, prog_1_method_23_code, 2, some (.int), [], 12, 0, 0, 0, 0, 0) := ⟨(zt_in (j := 7) (k := 153) rfl rfl), rfl, (zt_in (j := 1) (k := 1) rfl rfl), (zt_in (j := 7) (k := 151) rfl rfl), Or.inr (zt_in (j := 7) (k := 152) rfl rfl), by decide +kernel, by decide, fun h => absurd h (by decide)⟩
set_option maxRecDepth 100000 in
theorem zt_m_271 : zt_mOK (⟨"java/lang/StringBuilder", "charAt", "(I)C"⟩, prog_32_method_88_code, 2, some (.char), [], 1, 1, 0, 0, 99999, 0) := ⟨(zt_in (j := 7) (k := 177) rfl rfl), rfl, (zt_in (j := 1) (k := 23) rfl rfl), (zt_in (j := 7) (k := 175) rfl rfl), Or.inl rfl, by decide +kernel, by decide, fun h => absurd h (by decide)⟩
set_option maxRecDepth 100000 in
theorem zt_m_272 : zt_mOK (⟨"java/lang/AbstractStringBuilder", "charAt", "(I)C"⟩, prog_17_method_14_code, 5, some (.char), [], 20, 1, 0, 0, 99999, 0) := ⟨(zt_in (j := 7) (k := 180) rfl rfl), rfl, (zt_in (j := 1) (k := 22) rfl rfl), (zt_in (j := 7) (k := 179) rfl rfl), Or.inl rfl, by decide +kernel, by decide, fun h => absurd h (by decide)⟩
set_option maxRecDepth 100000 in
theorem zt_m_273 : zt_mOK (⟨"ColumnVault", "errorKind", "(I)I"⟩, prog_1_method_20_code, 3, some (.int), [], 12, 1, 0, 0, 0, 0) := ⟨(zt_in (j := 7) (k := 188) rfl rfl), rfl, (zt_in (j := 1) (k := 1) rfl rfl), (zt_in (j := 7) (k := 186) rfl rfl), Or.inr (zt_in (j := 7) (k := 187) rfl rfl), by decide +kernel, by decide, fun h => absurd h (by decide)⟩
set_option maxRecDepth 100000 in
theorem zt_m_274 : zt_mOK (⟨"ColumnVault", "errorPlace", "(I)I"⟩, prog_1_method_21_code, 3, some (.int), [], 12, 1, 0, 0, 0, 0) := ⟨(zt_in (j := 7) (k := 192) rfl rfl), rfl, (zt_in (j := 1) (k := 1) rfl rfl), (zt_in (j := 7) (k := 190) rfl rfl), Or.inr (zt_in (j := 7) (k := 191) rfl rfl), by decide +kernel, by decide, fun h => absurd h (by decide)⟩
set_option maxRecDepth 100000 in
theorem zt_m_275 : zt_mOK (⟨"ColumnVaultLaw", "size", "([Z)I"⟩, method_14_code, 6, some (.int), [], 17, 1, 0, 1, 99999, 0) := ⟨(zt_in (j := 7) (k := 195) rfl rfl), rfl, (zt_in (j := 1) (k := 0) rfl rfl), (zt_in (j := 7) (k := 194) rfl rfl), Or.inl rfl, by decide +kernel, by decide, fun h => absurd h (by decide)⟩
set_option maxRecDepth 100000 in
theorem zt_m_276 : zt_mOK (⟨"ColumnVault", "reads", "(IZ)I"⟩, prog_1_method_19_code, 3, some (.int), [], 12, 2, 0, 0, 0, 0) := ⟨(zt_in (j := 7) (k := 199) rfl rfl), rfl, (zt_in (j := 1) (k := 1) rfl rfl), (zt_in (j := 7) (k := 197) rfl rfl), Or.inr (zt_in (j := 7) (k := 198) rfl rfl), by decide +kernel, by decide, fun h => absurd h (by decide)⟩
set_option maxRecDepth 100000 in
theorem zt_m_277 : zt_mOK (⟨"ColumnVault", "readsOf", "(LColumnVault$Node;JZI)I"⟩, prog_1_method_63_code, 9, some (.int), [], 12, 4, 0, 1, 99999, 0) := ⟨(zt_in (j := 7) (k := 203) rfl rfl), rfl, (zt_in (j := 1) (k := 1) rfl rfl), (zt_in (j := 7) (k := 202) rfl rfl), Or.inl rfl, by decide +kernel, by decide, fun h => absurd h (by decide)⟩
set_option maxRecDepth 100000 in
theorem zt_m_278 : zt_mOK (⟨"ColumnVaultLaw", "same", "([Z[Z)Z"⟩, method_22_code, 4, some (.boolean), [], 17, 2, 0, 1, 99999, 0) := ⟨(zt_in (j := 7) (k := 206) rfl rfl), rfl, (zt_in (j := 1) (k := 0) rfl rfl), (zt_in (j := 7) (k := 205) rfl rfl), Or.inl rfl, by decide +kernel, by decide, fun h => absurd h (by decide)⟩
set_option maxRecDepth 100000 in
theorem zt_m_279 : zt_mOK (⟨"java/lang/StringBuilder", "append", "(Ljava/lang/Object;)Ljava/lang/StringBuilder;"⟩, prog_32_method_6_code, 2, some (.object "java/lang/StringBuilder"), [], 1, 1, 0, 0, 0, 0) := ⟨(zt_in (j := 7) (k := 211) rfl rfl), rfl, (zt_in (j := 1) (k := 23) rfl rfl), (zt_in (j := 7) (k := 209) rfl rfl), Or.inr (zt_in (j := 7) (k := 210) rfl rfl), by decide +kernel, by decide, fun h => absurd h (by decide)⟩
set_option maxRecDepth 100000 in
theorem zt_m_280 : zt_mOK (⟨"java/lang/String", "valueOf", "(Ljava/lang/Object;)Ljava/lang/String;"⟩, prog_31_method_133_code, 1, some (.object "java/lang/String"), [], 0, 1, 0, 1, 99999, 0) := ⟨(zt_in (j := 7) (k := 214) rfl rfl), rfl, (zt_in (j := 1) (k := 24) rfl rfl), (zt_in (j := 7) (k := 213) rfl rfl), Or.inl rfl, by decide +kernel, by decide, fun h => absurd h (by decide)⟩
set_option maxRecDepth 100000 in
theorem zt_m_281 : zt_mOK (⟨"java/lang/String", "toString", "()Ljava/lang/String;"⟩, prog_31_method_126_code, 1, some (.object "java/lang/String"), [], 0, 0, 0, 0, 99999, 0) := ⟨(zt_in (j := 8) (k := 41) rfl rfl), rfl, (zt_in (j := 1) (k := 24) rfl rfl), (zt_in (j := 8) (k := 40) rfl rfl), Or.inl rfl, by decide +kernel, by decide, fun h => absurd h (by decide)⟩
set_option maxRecDepth 100000 in
theorem zt_m_282 : zt_mOK (⟨"ColumnVault", "turnChoice", "(I)I"⟩, prog_1_method_17_code, 3, some (.int), [], 12, 1, 0, 0, 0, 0) := ⟨(zt_in (j := 8) (k := 47) rfl rfl), rfl, (zt_in (j := 1) (k := 1) rfl rfl), (zt_in (j := 8) (k := 45) rfl rfl), Or.inr (zt_in (j := 8) (k := 46) rfl rfl), by decide +kernel, by decide, fun h => absurd h (by decide)⟩
set_option maxRecDepth 100000 in
theorem zt_m_283 : zt_mOK (⟨"ColumnVaultLaw", "isWrong", "(LColumnVault;[II)Z"⟩, method_24_code, 11, some (.boolean), [], 17, 3, 0, 1, 99999, 0) := ⟨(zt_in (j := 8) (k := 50) rfl rfl), rfl, (zt_in (j := 1) (k := 0) rfl rfl), (zt_in (j := 8) (k := 49) rfl rfl), Or.inl rfl, by decide +kernel, by decide, fun h => absurd h (by decide)⟩
set_option maxRecDepth 100000 in
theorem zt_m_284 : zt_mOK (⟨"ColumnVaultLaw", "isJoined", "(LColumnVault;[III)Z"⟩, method_25_code, 14, some (.boolean), [], 17, 4, 0, 1, 99999, 0) := ⟨(zt_in (j := 8) (k := 80) rfl rfl), rfl, (zt_in (j := 1) (k := 0) rfl rfl), (zt_in (j := 8) (k := 79) rfl rfl), Or.inl rfl, by decide +kernel, by decide, fun h => absurd h (by decide)⟩
set_option maxRecDepth 100000 in
theorem zt_m_285 : zt_mOK (⟨"ColumnVault", "joinErrors", "(IIII)I"⟩, prog_1_method_27_code, 7, some (.int), [], 12, 4, 0, 0, 0, 0) := ⟨(zt_in (j := 8) (k := 84) rfl rfl), rfl, (zt_in (j := 1) (k := 1) rfl rfl), (zt_in (j := 8) (k := 82) rfl rfl), Or.inr (zt_in (j := 8) (k := 83) rfl rfl), by decide +kernel, by decide, fun h => absurd h (by decide)⟩
set_option maxRecDepth 100000 in
theorem zt_m_286 : zt_mOK (⟨"ColumnVault$JoinWays", "<init>", "(LColumnVault$Sheet;ILColumnVault$Sheet;I)V"⟩, prog_7_method_1_code, 5, none, [], 7, 4, 0, 2, 99999, 0) := ⟨(zt_in (j := 8) (k := 89) rfl rfl), rfl, (zt_in (j := 1) (k := 33) rfl rfl), (zt_in (j := 8) (k := 88) rfl rfl), Or.inl rfl, by decide +kernel, by decide, fun _ => rfl⟩
set_option maxRecDepth 100000 in
theorem zt_m_287 : zt_mOK (⟨"ColumnVault$JoinWays", "pairsNotToldByAll", "()I"⟩, prog_7_method_2_code, 9, some (.int), [], 7, 0, 0, 0, 0, 0) := ⟨(zt_in (j := 8) (k := 107) rfl rfl), rfl, (zt_in (j := 1) (k := 33) rfl rfl), (zt_in (j := 8) (k := 105) rfl rfl), Or.inr (zt_in (j := 8) (k := 106) rfl rfl), by decide +kernel, by decide, fun h => absurd h (by decide)⟩
set_option maxRecDepth 100000 in
theorem zt_m_288 : zt_mOK (⟨"ColumnVault$JoinWays", "byMerging", "([I[I)[J"⟩, prog_7_method_3_code, 9, some (.array (.long)), [], 7, 2, 0, 0, 0, 0) := ⟨(zt_in (j := 8) (k := 112) rfl rfl), rfl, (zt_in (j := 1) (k := 33) rfl rfl), (zt_in (j := 8) (k := 111) rfl rfl), Or.inr (zt_in (j := 0) (k := 39) rfl rfl), by decide +kernel, by decide, fun h => absurd h (by decide)⟩
set_option maxRecDepth 100000 in
theorem zt_m_289 : zt_mOK (⟨"ColumnVault$JoinWays", "rowsWithKeyFrom", "([IIJ)J"⟩, prog_7_method_6_code, 8, some (.long), [], 7, 3, 0, 0, 0, 0) := ⟨(zt_in (j := 8) (k := 118) rfl rfl), rfl, (zt_in (j := 1) (k := 33) rfl rfl), (zt_in (j := 8) (k := 117) rfl rfl), Or.inr (zt_in (j := 0) (k := 40) rfl rfl), by decide +kernel, by decide, fun h => absurd h (by decide)⟩
set_option maxRecDepth 100000 in
theorem zt_m_290 : zt_mOK (⟨"ColumnVault$JoinWays", "byLookingUp", "([I)[J"⟩, prog_7_method_4_code, 6, some (.array (.long)), [], 7, 1, 0, 0, 0, 0) := ⟨(zt_in (j := 8) (k := 123) rfl rfl), rfl, (zt_in (j := 1) (k := 33) rfl rfl), (zt_in (j := 8) (k := 122) rfl rfl), Or.inr (zt_in (j := 0) (k := 41) rfl rfl), by decide +kernel, by decide, fun h => absurd h (by decide)⟩
set_option maxRecDepth 100000 in
theorem zt_m_291 : zt_mOK (⟨"ColumnVault$JoinWays", "firstPlaceOf", "([IJ)I"⟩, prog_7_method_5_code, 8, some (.int), [], 7, 2, 0, 0, 0, 0) := ⟨(zt_in (j := 8) (k := 129) rfl rfl), rfl, (zt_in (j := 1) (k := 33) rfl rfl), (zt_in (j := 8) (k := 128) rfl rfl), Or.inr (zt_in (j := 0) (k := 42) rfl rfl), by decide +kernel, by decide, fun h => absurd h (by decide)⟩
set_option maxRecDepth 100000 in
theorem zt_m_292 : zt_mOK (⟨"ColumnVault$JoinWays", "byTrying", "()[J"⟩, prog_7_method_7_code, 6, some (.array (.long)), [], 7, 0, 0, 0, 0, 0) := ⟨(zt_in (j := 8) (k := 133) rfl rfl), rfl, (zt_in (j := 1) (k := 33) rfl rfl), (zt_in (j := 8) (k := 132) rfl rfl), Or.inr (zt_in (j := 0) (k := 43) rfl rfl), by decide +kernel, by decide, fun h => absurd h (by decide)⟩
set_option maxRecDepth 100000 in
theorem zt_m_293 : zt_mOK (⟨"ColumnVaultLaw", "isGrouped", "(LColumnVault;[II)Z"⟩, method_26_code, 23, some (.boolean), [], 17, 3, 0, 1, 99999, 0) := ⟨(zt_in (j := 8) (k := 138) rfl rfl), rfl, (zt_in (j := 1) (k := 0) rfl rfl), (zt_in (j := 8) (k := 137) rfl rfl), Or.inl rfl, by decide +kernel, by decide, fun h => absurd h (by decide)⟩
set_option maxRecDepth 100000 in
theorem zt_m_294 : zt_mOK (⟨"ColumnVault", "group", "(II)I"⟩, prog_1_method_28_code, 3, some (.int), [], 12, 2, 0, 0, 0, 0) := ⟨(zt_in (j := 8) (k := 142) rfl rfl), rfl, (zt_in (j := 1) (k := 1) rfl rfl), (zt_in (j := 8) (k := 140) rfl rfl), Or.inr (zt_in (j := 8) (k := 141) rfl rfl), by decide +kernel, by decide, fun h => absurd h (by decide)⟩
set_option maxRecDepth 100000 in
theorem zt_m_295 : zt_mOK (⟨"ColumnVault", "meanOf", "(II)D"⟩, prog_1_method_39_code, 5, some (.double), [], 12, 2, 0, 0, 0, 0) := ⟨(zt_in (j := 8) (k := 148) rfl rfl), rfl, (zt_in (j := 1) (k := 1) rfl rfl), (zt_in (j := 8) (k := 146) rfl rfl), Or.inr (zt_in (j := 8) (k := 147) rfl rfl), by decide +kernel, by decide, fun h => absurd h (by decide)⟩
set_option maxRecDepth 100000 in
theorem zt_m_296 : zt_mOK (⟨"ColumnVaultLaw", "isTold", "(LColumnVault;[II)Z"⟩, method_27_code, 29, some (.boolean), [], 17, 3, 0, 1, 99999, 0) := ⟨(zt_in (j := 8) (k := 151) rfl rfl), rfl, (zt_in (j := 1) (k := 0) rfl rfl), (zt_in (j := 8) (k := 150) rfl rfl), Or.inl rfl, by decide +kernel, by decide, fun h => absurd h (by decide)⟩
set_option maxRecDepth 100000 in
theorem zt_m_297 : zt_mOK (⟨"ColumnVault", "previous", "(III)I"⟩, prog_1_method_34_code, 6, some (.int), [], 12, 3, 0, 0, 0, 0) := ⟨(zt_in (j := 8) (k := 155) rfl rfl), rfl, (zt_in (j := 1) (k := 1) rfl rfl), (zt_in (j := 8) (k := 153) rfl rfl), Or.inr (zt_in (j := 8) (k := 154) rfl rfl), by decide +kernel, by decide, fun h => absurd h (by decide)⟩
set_option maxRecDepth 100000 in
theorem zt_m_298 : zt_mOK (⟨"ColumnVaultLaw", "areAlike", "(LColumnVault;I)Z"⟩, method_28_code, 4, some (.boolean), [], 17, 2, 0, 1, 99999, 0) := ⟨(zt_in (j := 8) (k := 159) rfl rfl), rfl, (zt_in (j := 1) (k := 0) rfl rfl), (zt_in (j := 8) (k := 158) rfl rfl), Or.inl rfl, by decide +kernel, by decide, fun h => absurd h (by decide)⟩
set_option maxRecDepth 100000 in
theorem zt_m_299 : zt_mOK (⟨"ColumnVaultLaw", "areSets", "(LColumnVault;II)Z"⟩, method_29_code, 6, some (.boolean), [], 17, 3, 0, 1, 99999, 0) := ⟨(zt_in (j := 8) (k := 162) rfl rfl), rfl, (zt_in (j := 1) (k := 0) rfl rfl), (zt_in (j := 8) (k := 161) rfl rfl), Or.inl rfl, by decide +kernel, by decide, fun h => absurd h (by decide)⟩
set_option maxRecDepth 100000 in
theorem zt_m_300 : zt_mOK (⟨"ColumnVaultLaw", "isBack", "(LColumnVault;[I)Z"⟩, method_30_code, 9, some (.boolean), [], 17, 2, 0, 1, 99999, 0) := ⟨(zt_in (j := 8) (k := 165) rfl rfl), rfl, (zt_in (j := 1) (k := 0) rfl rfl), (zt_in (j := 8) (k := 164) rfl rfl), Or.inl rfl, by decide +kernel, by decide, fun h => absurd h (by decide)⟩
set_option maxRecDepth 100000 in
theorem zt_m_301 : zt_mOK (⟨"ColumnVaultLaw", "digest", "(LColumnVault;I)J"⟩, method_15_code, 13, some (.long), [], 17, 2, 0, 1, 99999, 0) := ⟨(zt_in (j := 8) (k := 168) rfl rfl), rfl, (zt_in (j := 1) (k := 0) rfl rfl), (zt_in (j := 8) (k := 167) rfl rfl), Or.inl rfl, by decide +kernel, by decide, fun h => absurd h (by decide)⟩
set_option maxRecDepth 100000 in
theorem zt_m_302 : zt_mOK (⟨"ColumnVaultLaw", "areRefused", "(LColumnVault;[I)Z"⟩, method_31_code, 6, some (.boolean), [], 17, 2, 0, 1, 99999, 0) := ⟨(zt_in (j := 8) (k := 172) rfl rfl), rfl, (zt_in (j := 1) (k := 0) rfl rfl), (zt_in (j := 8) (k := 171) rfl rfl), Or.inl rfl, by decide +kernel, by decide, fun h => absurd h (by decide)⟩
theorem zt_mall0 : ∀ q ∈ zt_m0.tail, zt_mOK q := List.forall_mem_cons.mpr ⟨zt_m_1, List.forall_mem_cons.mpr ⟨zt_m_2, List.forall_mem_cons.mpr ⟨zt_m_3, List.forall_mem_cons.mpr ⟨zt_m_4, List.forall_mem_cons.mpr ⟨zt_m_5, List.forall_mem_cons.mpr ⟨zt_m_6, List.forall_mem_cons.mpr ⟨zt_m_7, List.forall_mem_cons.mpr ⟨zt_m_8, List.forall_mem_cons.mpr ⟨zt_m_9, List.forall_mem_cons.mpr ⟨zt_m_10, List.forall_mem_cons.mpr ⟨zt_m_11, List.forall_mem_cons.mpr ⟨zt_m_12, List.forall_mem_cons.mpr ⟨zt_m_13, List.forall_mem_cons.mpr ⟨zt_m_14, List.forall_mem_cons.mpr ⟨zt_m_15, List.forall_mem_cons.mpr ⟨zt_m_16, List.forall_mem_cons.mpr ⟨zt_m_17, List.forall_mem_cons.mpr ⟨zt_m_18, List.forall_mem_cons.mpr ⟨zt_m_19, List.forall_mem_cons.mpr ⟨zt_m_20, List.forall_mem_cons.mpr ⟨zt_m_21, List.forall_mem_cons.mpr ⟨zt_m_22, List.forall_mem_cons.mpr ⟨zt_m_23, List.forall_mem_cons.mpr ⟨zt_m_24, List.forall_mem_cons.mpr ⟨zt_m_25, List.forall_mem_cons.mpr ⟨zt_m_26, List.forall_mem_cons.mpr ⟨zt_m_27, List.forall_mem_cons.mpr ⟨zt_m_28, List.forall_mem_cons.mpr ⟨zt_m_29, List.forall_mem_cons.mpr ⟨zt_m_30, List.forall_mem_cons.mpr ⟨zt_m_31, List.forall_mem_cons.mpr ⟨zt_m_32, List.forall_mem_cons.mpr ⟨zt_m_33, List.forall_mem_cons.mpr ⟨zt_m_34, List.forall_mem_cons.mpr ⟨zt_m_35, List.forall_mem_cons.mpr ⟨zt_m_36, List.forall_mem_cons.mpr ⟨zt_m_37, List.forall_mem_cons.mpr ⟨zt_m_38, List.forall_mem_cons.mpr ⟨zt_m_39, List.forall_mem_cons.mpr ⟨zt_m_40, List.forall_mem_cons.mpr ⟨zt_m_41, List.forall_mem_cons.mpr ⟨zt_m_42, List.forall_mem_cons.mpr ⟨zt_m_43, List.forall_mem_cons.mpr ⟨zt_m_44, List.forall_mem_cons.mpr ⟨zt_m_45, List.forall_mem_cons.mpr ⟨zt_m_46, List.forall_mem_cons.mpr ⟨zt_m_47, List.forall_mem_cons.mpr ⟨zt_m_48, List.forall_mem_cons.mpr ⟨zt_m_49, List.forall_mem_cons.mpr ⟨zt_m_50, List.forall_mem_cons.mpr ⟨zt_m_51, List.forall_mem_cons.mpr ⟨zt_m_52, List.forall_mem_cons.mpr ⟨zt_m_53, List.forall_mem_cons.mpr ⟨zt_m_54, List.forall_mem_cons.mpr ⟨zt_m_55, List.forall_mem_cons.mpr ⟨zt_m_56, List.forall_mem_cons.mpr ⟨zt_m_57, List.forall_mem_cons.mpr ⟨zt_m_58, List.forall_mem_cons.mpr ⟨zt_m_59, fun _ h => absurd h List.not_mem_nil⟩⟩⟩⟩⟩⟩⟩⟩⟩⟩⟩⟩⟩⟩⟩⟩⟩⟩⟩⟩⟩⟩⟩⟩⟩⟩⟩⟩⟩⟩⟩⟩⟩⟩⟩⟩⟩⟩⟩⟩⟩⟩⟩⟩⟩⟩⟩⟩⟩⟩⟩⟩⟩⟩⟩⟩⟩⟩⟩
theorem zt_mall1 : ∀ q ∈ zt_m1, zt_mOK q := List.forall_mem_cons.mpr ⟨zt_m_60, List.forall_mem_cons.mpr ⟨zt_m_61, List.forall_mem_cons.mpr ⟨zt_m_62, List.forall_mem_cons.mpr ⟨zt_m_63, List.forall_mem_cons.mpr ⟨zt_m_64, List.forall_mem_cons.mpr ⟨zt_m_65, List.forall_mem_cons.mpr ⟨zt_m_66, List.forall_mem_cons.mpr ⟨zt_m_67, List.forall_mem_cons.mpr ⟨zt_m_68, List.forall_mem_cons.mpr ⟨zt_m_69, List.forall_mem_cons.mpr ⟨zt_m_70, List.forall_mem_cons.mpr ⟨zt_m_71, List.forall_mem_cons.mpr ⟨zt_m_72, List.forall_mem_cons.mpr ⟨zt_m_73, List.forall_mem_cons.mpr ⟨zt_m_74, List.forall_mem_cons.mpr ⟨zt_m_75, List.forall_mem_cons.mpr ⟨zt_m_76, List.forall_mem_cons.mpr ⟨zt_m_77, List.forall_mem_cons.mpr ⟨zt_m_78, List.forall_mem_cons.mpr ⟨zt_m_79, List.forall_mem_cons.mpr ⟨zt_m_80, List.forall_mem_cons.mpr ⟨zt_m_81, List.forall_mem_cons.mpr ⟨zt_m_82, List.forall_mem_cons.mpr ⟨zt_m_83, List.forall_mem_cons.mpr ⟨zt_m_84, List.forall_mem_cons.mpr ⟨zt_m_85, List.forall_mem_cons.mpr ⟨zt_m_86, List.forall_mem_cons.mpr ⟨zt_m_87, List.forall_mem_cons.mpr ⟨zt_m_88, List.forall_mem_cons.mpr ⟨zt_m_89, List.forall_mem_cons.mpr ⟨zt_m_90, List.forall_mem_cons.mpr ⟨zt_m_91, List.forall_mem_cons.mpr ⟨zt_m_92, List.forall_mem_cons.mpr ⟨zt_m_93, List.forall_mem_cons.mpr ⟨zt_m_94, List.forall_mem_cons.mpr ⟨zt_m_95, List.forall_mem_cons.mpr ⟨zt_m_96, List.forall_mem_cons.mpr ⟨zt_m_97, List.forall_mem_cons.mpr ⟨zt_m_98, List.forall_mem_cons.mpr ⟨zt_m_99, List.forall_mem_cons.mpr ⟨zt_m_100, List.forall_mem_cons.mpr ⟨zt_m_101, List.forall_mem_cons.mpr ⟨zt_m_102, List.forall_mem_cons.mpr ⟨zt_m_103, List.forall_mem_cons.mpr ⟨zt_m_104, List.forall_mem_cons.mpr ⟨zt_m_105, List.forall_mem_cons.mpr ⟨zt_m_106, List.forall_mem_cons.mpr ⟨zt_m_107, List.forall_mem_cons.mpr ⟨zt_m_108, List.forall_mem_cons.mpr ⟨zt_m_109, List.forall_mem_cons.mpr ⟨zt_m_110, List.forall_mem_cons.mpr ⟨zt_m_111, List.forall_mem_cons.mpr ⟨zt_m_112, List.forall_mem_cons.mpr ⟨zt_m_113, List.forall_mem_cons.mpr ⟨zt_m_114, List.forall_mem_cons.mpr ⟨zt_m_115, List.forall_mem_cons.mpr ⟨zt_m_116, List.forall_mem_cons.mpr ⟨zt_m_117, List.forall_mem_cons.mpr ⟨zt_m_118, List.forall_mem_cons.mpr ⟨zt_m_119, fun _ h => absurd h List.not_mem_nil⟩⟩⟩⟩⟩⟩⟩⟩⟩⟩⟩⟩⟩⟩⟩⟩⟩⟩⟩⟩⟩⟩⟩⟩⟩⟩⟩⟩⟩⟩⟩⟩⟩⟩⟩⟩⟩⟩⟩⟩⟩⟩⟩⟩⟩⟩⟩⟩⟩⟩⟩⟩⟩⟩⟩⟩⟩⟩⟩⟩
theorem zt_mall2 : ∀ q ∈ zt_m2, zt_mOK q := List.forall_mem_cons.mpr ⟨zt_m_120, List.forall_mem_cons.mpr ⟨zt_m_121, List.forall_mem_cons.mpr ⟨zt_m_122, List.forall_mem_cons.mpr ⟨zt_m_123, List.forall_mem_cons.mpr ⟨zt_m_124, List.forall_mem_cons.mpr ⟨zt_m_125, List.forall_mem_cons.mpr ⟨zt_m_126, List.forall_mem_cons.mpr ⟨zt_m_127, List.forall_mem_cons.mpr ⟨zt_m_128, List.forall_mem_cons.mpr ⟨zt_m_129, List.forall_mem_cons.mpr ⟨zt_m_130, List.forall_mem_cons.mpr ⟨zt_m_131, List.forall_mem_cons.mpr ⟨zt_m_132, List.forall_mem_cons.mpr ⟨zt_m_133, List.forall_mem_cons.mpr ⟨zt_m_134, List.forall_mem_cons.mpr ⟨zt_m_135, List.forall_mem_cons.mpr ⟨zt_m_136, List.forall_mem_cons.mpr ⟨zt_m_137, List.forall_mem_cons.mpr ⟨zt_m_138, List.forall_mem_cons.mpr ⟨zt_m_139, List.forall_mem_cons.mpr ⟨zt_m_140, List.forall_mem_cons.mpr ⟨zt_m_141, List.forall_mem_cons.mpr ⟨zt_m_142, List.forall_mem_cons.mpr ⟨zt_m_143, List.forall_mem_cons.mpr ⟨zt_m_144, List.forall_mem_cons.mpr ⟨zt_m_145, List.forall_mem_cons.mpr ⟨zt_m_146, List.forall_mem_cons.mpr ⟨zt_m_147, List.forall_mem_cons.mpr ⟨zt_m_148, List.forall_mem_cons.mpr ⟨zt_m_149, List.forall_mem_cons.mpr ⟨zt_m_150, List.forall_mem_cons.mpr ⟨zt_m_151, List.forall_mem_cons.mpr ⟨zt_m_152, List.forall_mem_cons.mpr ⟨zt_m_153, List.forall_mem_cons.mpr ⟨zt_m_154, List.forall_mem_cons.mpr ⟨zt_m_155, List.forall_mem_cons.mpr ⟨zt_m_156, List.forall_mem_cons.mpr ⟨zt_m_157, List.forall_mem_cons.mpr ⟨zt_m_158, List.forall_mem_cons.mpr ⟨zt_m_159, List.forall_mem_cons.mpr ⟨zt_m_160, List.forall_mem_cons.mpr ⟨zt_m_161, List.forall_mem_cons.mpr ⟨zt_m_162, List.forall_mem_cons.mpr ⟨zt_m_163, List.forall_mem_cons.mpr ⟨zt_m_164, List.forall_mem_cons.mpr ⟨zt_m_165, List.forall_mem_cons.mpr ⟨zt_m_166, List.forall_mem_cons.mpr ⟨zt_m_167, List.forall_mem_cons.mpr ⟨zt_m_168, List.forall_mem_cons.mpr ⟨zt_m_169, List.forall_mem_cons.mpr ⟨zt_m_170, List.forall_mem_cons.mpr ⟨zt_m_171, List.forall_mem_cons.mpr ⟨zt_m_172, List.forall_mem_cons.mpr ⟨zt_m_173, List.forall_mem_cons.mpr ⟨zt_m_174, List.forall_mem_cons.mpr ⟨zt_m_175, List.forall_mem_cons.mpr ⟨zt_m_176, List.forall_mem_cons.mpr ⟨zt_m_177, List.forall_mem_cons.mpr ⟨zt_m_178, List.forall_mem_cons.mpr ⟨zt_m_179, fun _ h => absurd h List.not_mem_nil⟩⟩⟩⟩⟩⟩⟩⟩⟩⟩⟩⟩⟩⟩⟩⟩⟩⟩⟩⟩⟩⟩⟩⟩⟩⟩⟩⟩⟩⟩⟩⟩⟩⟩⟩⟩⟩⟩⟩⟩⟩⟩⟩⟩⟩⟩⟩⟩⟩⟩⟩⟩⟩⟩⟩⟩⟩⟩⟩⟩
theorem zt_mall3 : ∀ q ∈ zt_m3, zt_mOK q := List.forall_mem_cons.mpr ⟨zt_m_180, List.forall_mem_cons.mpr ⟨zt_m_181, List.forall_mem_cons.mpr ⟨zt_m_182, List.forall_mem_cons.mpr ⟨zt_m_183, List.forall_mem_cons.mpr ⟨zt_m_184, List.forall_mem_cons.mpr ⟨zt_m_185, List.forall_mem_cons.mpr ⟨zt_m_186, List.forall_mem_cons.mpr ⟨zt_m_187, List.forall_mem_cons.mpr ⟨zt_m_188, List.forall_mem_cons.mpr ⟨zt_m_189, List.forall_mem_cons.mpr ⟨zt_m_190, List.forall_mem_cons.mpr ⟨zt_m_191, List.forall_mem_cons.mpr ⟨zt_m_192, List.forall_mem_cons.mpr ⟨zt_m_193, List.forall_mem_cons.mpr ⟨zt_m_194, List.forall_mem_cons.mpr ⟨zt_m_195, List.forall_mem_cons.mpr ⟨zt_m_196, List.forall_mem_cons.mpr ⟨zt_m_197, List.forall_mem_cons.mpr ⟨zt_m_198, List.forall_mem_cons.mpr ⟨zt_m_199, List.forall_mem_cons.mpr ⟨zt_m_200, List.forall_mem_cons.mpr ⟨zt_m_201, List.forall_mem_cons.mpr ⟨zt_m_202, List.forall_mem_cons.mpr ⟨zt_m_203, List.forall_mem_cons.mpr ⟨zt_m_204, List.forall_mem_cons.mpr ⟨zt_m_205, List.forall_mem_cons.mpr ⟨zt_m_206, List.forall_mem_cons.mpr ⟨zt_m_207, List.forall_mem_cons.mpr ⟨zt_m_208, List.forall_mem_cons.mpr ⟨zt_m_209, List.forall_mem_cons.mpr ⟨zt_m_210, List.forall_mem_cons.mpr ⟨zt_m_211, List.forall_mem_cons.mpr ⟨zt_m_212, List.forall_mem_cons.mpr ⟨zt_m_213, List.forall_mem_cons.mpr ⟨zt_m_214, List.forall_mem_cons.mpr ⟨zt_m_215, List.forall_mem_cons.mpr ⟨zt_m_216, List.forall_mem_cons.mpr ⟨zt_m_217, List.forall_mem_cons.mpr ⟨zt_m_218, List.forall_mem_cons.mpr ⟨zt_m_219, List.forall_mem_cons.mpr ⟨zt_m_220, List.forall_mem_cons.mpr ⟨zt_m_221, List.forall_mem_cons.mpr ⟨zt_m_222, List.forall_mem_cons.mpr ⟨zt_m_223, List.forall_mem_cons.mpr ⟨zt_m_224, List.forall_mem_cons.mpr ⟨zt_m_225, List.forall_mem_cons.mpr ⟨zt_m_226, List.forall_mem_cons.mpr ⟨zt_m_227, List.forall_mem_cons.mpr ⟨zt_m_228, List.forall_mem_cons.mpr ⟨zt_m_229, List.forall_mem_cons.mpr ⟨zt_m_230, List.forall_mem_cons.mpr ⟨zt_m_231, List.forall_mem_cons.mpr ⟨zt_m_232, List.forall_mem_cons.mpr ⟨zt_m_233, List.forall_mem_cons.mpr ⟨zt_m_234, List.forall_mem_cons.mpr ⟨zt_m_235, List.forall_mem_cons.mpr ⟨zt_m_236, List.forall_mem_cons.mpr ⟨zt_m_237, List.forall_mem_cons.mpr ⟨zt_m_238, List.forall_mem_cons.mpr ⟨zt_m_239, fun _ h => absurd h List.not_mem_nil⟩⟩⟩⟩⟩⟩⟩⟩⟩⟩⟩⟩⟩⟩⟩⟩⟩⟩⟩⟩⟩⟩⟩⟩⟩⟩⟩⟩⟩⟩⟩⟩⟩⟩⟩⟩⟩⟩⟩⟩⟩⟩⟩⟩⟩⟩⟩⟩⟩⟩⟩⟩⟩⟩⟩⟩⟩⟩⟩⟩
theorem zt_mall4 : ∀ q ∈ zt_m4, zt_mOK q := List.forall_mem_cons.mpr ⟨zt_m_240, List.forall_mem_cons.mpr ⟨zt_m_241, List.forall_mem_cons.mpr ⟨zt_m_242, List.forall_mem_cons.mpr ⟨zt_m_243, List.forall_mem_cons.mpr ⟨zt_m_244, List.forall_mem_cons.mpr ⟨zt_m_245, List.forall_mem_cons.mpr ⟨zt_m_246, List.forall_mem_cons.mpr ⟨zt_m_247, List.forall_mem_cons.mpr ⟨zt_m_248, List.forall_mem_cons.mpr ⟨zt_m_249, List.forall_mem_cons.mpr ⟨zt_m_250, List.forall_mem_cons.mpr ⟨zt_m_251, List.forall_mem_cons.mpr ⟨zt_m_252, List.forall_mem_cons.mpr ⟨zt_m_253, List.forall_mem_cons.mpr ⟨zt_m_254, List.forall_mem_cons.mpr ⟨zt_m_255, List.forall_mem_cons.mpr ⟨zt_m_256, List.forall_mem_cons.mpr ⟨zt_m_257, List.forall_mem_cons.mpr ⟨zt_m_258, List.forall_mem_cons.mpr ⟨zt_m_259, List.forall_mem_cons.mpr ⟨zt_m_260, List.forall_mem_cons.mpr ⟨zt_m_261, List.forall_mem_cons.mpr ⟨zt_m_262, List.forall_mem_cons.mpr ⟨zt_m_263, List.forall_mem_cons.mpr ⟨zt_m_264, List.forall_mem_cons.mpr ⟨zt_m_265, List.forall_mem_cons.mpr ⟨zt_m_266, List.forall_mem_cons.mpr ⟨zt_m_267, List.forall_mem_cons.mpr ⟨zt_m_268, List.forall_mem_cons.mpr ⟨zt_m_269, List.forall_mem_cons.mpr ⟨zt_m_270, List.forall_mem_cons.mpr ⟨zt_m_271, List.forall_mem_cons.mpr ⟨zt_m_272, List.forall_mem_cons.mpr ⟨zt_m_273, List.forall_mem_cons.mpr ⟨zt_m_274, List.forall_mem_cons.mpr ⟨zt_m_275, List.forall_mem_cons.mpr ⟨zt_m_276, List.forall_mem_cons.mpr ⟨zt_m_277, List.forall_mem_cons.mpr ⟨zt_m_278, List.forall_mem_cons.mpr ⟨zt_m_279, List.forall_mem_cons.mpr ⟨zt_m_280, List.forall_mem_cons.mpr ⟨zt_m_281, List.forall_mem_cons.mpr ⟨zt_m_282, List.forall_mem_cons.mpr ⟨zt_m_283, List.forall_mem_cons.mpr ⟨zt_m_284, List.forall_mem_cons.mpr ⟨zt_m_285, List.forall_mem_cons.mpr ⟨zt_m_286, List.forall_mem_cons.mpr ⟨zt_m_287, List.forall_mem_cons.mpr ⟨zt_m_288, List.forall_mem_cons.mpr ⟨zt_m_289, List.forall_mem_cons.mpr ⟨zt_m_290, List.forall_mem_cons.mpr ⟨zt_m_291, List.forall_mem_cons.mpr ⟨zt_m_292, List.forall_mem_cons.mpr ⟨zt_m_293, List.forall_mem_cons.mpr ⟨zt_m_294, List.forall_mem_cons.mpr ⟨zt_m_295, List.forall_mem_cons.mpr ⟨zt_m_296, List.forall_mem_cons.mpr ⟨zt_m_297, List.forall_mem_cons.mpr ⟨zt_m_298, List.forall_mem_cons.mpr ⟨zt_m_299, fun _ h => absurd h List.not_mem_nil⟩⟩⟩⟩⟩⟩⟩⟩⟩⟩⟩⟩⟩⟩⟩⟩⟩⟩⟩⟩⟩⟩⟩⟩⟩⟩⟩⟩⟩⟩⟩⟩⟩⟩⟩⟩⟩⟩⟩⟩⟩⟩⟩⟩⟩⟩⟩⟩⟩⟩⟩⟩⟩⟩⟩⟩⟩⟩⟩⟩
theorem zt_mall5 : ∀ q ∈ zt_m5, zt_mOK q := List.forall_mem_cons.mpr ⟨zt_m_300, List.forall_mem_cons.mpr ⟨zt_m_301, List.forall_mem_cons.mpr ⟨zt_m_302, fun _ h => absurd h List.not_mem_nil⟩⟩⟩
theorem zt_mall : ∀ q ∈ zt_m.tail, zt_mOK q := by
  intro q hq
  have h : q ∈ zt_m0.tail ++ (zt_m1 ++ (zt_m2 ++ (zt_m3 ++ (zt_m4 ++ (zt_m5))))) := hq
  simp only [List.mem_append] at h
  rcases h with h | h | h | h | h | h
  · exact zt_mall0 q h
  · exact zt_mall1 q h
  · exact zt_mall2 q h
  · exact zt_mall3 q h
  · exact zt_mall4 q h
  · exact zt_mall5 q h
theorem zt_m_ok {mi : Nat} {q : zx_M} (h : zt_m[mi + 1]? = some q) : zt_mOK q := zt_mall q (List.mem_of_getElem? (i := mi) (by rw [← h]; rfl))
def zt_eOK (own : String) (e : Nat × Nat × Nat × Nat × Nat) : Prop := match e with
  | (i, kd, x, y, _) => match kd with
    | 0 => ∃ (r : vw_C) (ref : String), zt_cl[x]? = some r ∧ y < r.2.2 ∧ Cond.fieldLink own i ref (r.2.1 y).2.1 (r.2.1 y).2.2.1 ∈ zt_good ∧ (ref = (r.2.1 y).1 ∨ Cond.sameField ref (r.2.1 y).1 (r.2.1 y).2.1 (r.2.1 y).2.2.1 ∈ zt_good)
    | 1 => ∃ (r : vw_C) (host : String), zt_cl[x]? = some r ∧ y < r.2.2 ∧ Cond.fieldLinkNest own i (r.2.1 y).1 (r.2.1 y).2.1 (r.2.1 y).2.2.1 host ∈ zt_nw
    | 2 => ∃ C : String, Cond.classLink own i C ∈ zt_good ∧ (x = 999 ∨ (zt_cl[x]?).map (·.1) = some C) ∧ (y = 999 ∨ zt_at[y]? = some (.object C))
    | 4 | 6 | 8 => ∃ q : zx_M, zt_m[x]? = some q ∧ Cond.methodLink own i q.1 ∈ zt_good
    | 5 | 7 | 9 => ∃ (q : zx_M) (host : String), zt_m[x]? = some q ∧ Cond.methodLinkNest own i q.1 host ∈ zt_nw
    | 10 => Cond.methodLink own i objectInit ∈ zt_good
    | 11 | 12 => ∃ x9 : MethodName, zt_vn[x]? = some x9 ∧ Cond.methodLink own i x9 ∈ zt_good
    | 15 => ∃ q : zx_M, zt_m[x]? = some q ∧ Cond.methodLink own i q.1 ∈ zt_good ∧ Cond.sameMethod q.1.cls q.1.cls q.1.name q.1.desc ∈ zt_good ∧ Cond.privateMethod q.1 ∈ zt_nw
    | 21 => ∃ q : zx_M, zt_m[x]? = some q ∧ Cond.methodLink own i q.1 ∈ zt_good ∧ Cond.sameMethod q.1.cls q.1.cls q.1.name q.1.desc ∈ zt_good ∧ Cond.superclass own q.1.cls ∈ zt_good ∧ q.1.name ≠ "<init>"
    | 13 => ∃ tx : String, Cond.stringRef own i tx ∈ lw_tbl ∧ (y = 1 → (own, i, tx, x) ∈ zt_str)
    | 14 => ∃ e : String × String × String, zt_stn[x]? = some e ∧ Cond.fieldLink own i e.1 e.2.1 e.2.2 ∈ zt_good
    | 16 => (y = 0 ∧ Cond.methodLink own i Lib.Math.max.name ∈ zt_good ∧ Cond.static Lib.Math.max.name ∈ zt_good ∧ Cond.initialized "java/lang/Math" ∈ zt_good ∧ Cond.code Lib.Math.max.name Lib.Math.max.code 2 (some .int) ∈ zt_good) ∨
        (y = 1 ∧ Cond.methodLink own i Lib.Math.min.name ∈ zt_good ∧ Cond.static Lib.Math.min.name ∈ zt_good ∧ Cond.initialized "java/lang/Math" ∈ zt_good ∧ Cond.code Lib.Math.min.name Lib.Math.min.code 2 (some .int) ∈ zt_good) ∨
        (y = 2 ∧ Cond.methodLink own i Lib.MathLoose.min_long.x ∈ zt_good ∧ Cond.static Lib.MathLoose.min_long.x ∈ zt_good ∧ Cond.initialized "java/lang/Math" ∈ zt_good ∧ Cond.code Lib.MathLoose.min_long.x Lib.MathLoose.min_long.code 4 (some .long) ∈ zt_good)
    | 17 => Cond.methodLink own i arraycopyName ∈ zt_good
    | 18 => ∃ (nm : String) (ty : FieldType), Cond.classLink own i nm ∈ zt_good ∧ zt_at[x]? = some ty ∧ nm = "[" ++ ty.toString
    | 19 => Cond.classLink own i "java/lang/Boolean" ∈ zt_good
    | _ => False
set_option maxRecDepth 100000 in
theorem zt_e0_29 : zt_eOK "java/lang/String" (1065, 4, 151, 0, 5079) := ⟨_, rfl, (zt_in (j := 5) (k := 79) rfl rfl)⟩
set_option maxRecDepth 100000 in
theorem zt_e0_28 : zt_eOK "java/lang/String" (1062, 4, 173, 0, 5168) := ⟨_, rfl, (zt_in (j := 5) (k := 168) rfl rfl)⟩
set_option maxRecDepth 100000 in
theorem zt_e0_27 : zt_eOK "java/lang/String" (1059, 4, 156, 0, 5100) := ⟨_, rfl, (zt_in (j := 5) (k := 100) rfl rfl)⟩
set_option maxRecDepth 100000 in
theorem zt_e0_26 : zt_eOK "java/lang/String" (1053, 14, 1, 0, 5077) := ⟨_, rfl, (zt_in (j := 5) (k := 77) rfl rfl)⟩
set_option maxRecDepth 100000 in
theorem zt_e0_25 : zt_eOK "java/lang/String" (1051, 4, 184, 0, 5217) := ⟨_, rfl, (zt_in (j := 5) (k := 217) rfl rfl)⟩
set_option maxRecDepth 100000 in
theorem zt_e0_24 : zt_eOK "java/lang/String" (1048, 0, 1, 2, 5001) := ⟨_, "java/lang/AbstractStringBuilder", rfl, by decide, (zt_in (j := 5) (k := 1) rfl rfl), Or.inl rfl⟩
set_option maxRecDepth 100000 in
theorem zt_e0_23 : zt_eOK "java/lang/String" (1047, 12, 0, 0, 5129) := ⟨_, rfl, (zt_in (j := 5) (k := 129) rfl rfl)⟩
set_option maxRecDepth 100000 in
theorem zt_e0_22 : zt_eOK "java/lang/String" (1007, 12, 6, 0, 7217) := ⟨_, rfl, (zt_in (j := 7) (k := 217) rfl rfl)⟩
set_option maxRecDepth 100000 in
theorem zt_e0_21 : zt_eOK "java/lang/String" (1005, 13, 0, 0, 7215) := ⟨"null", zt_ch_in (j := 7) (List.mem_of_getElem? (i := 215) rfl), fun h => absurd h (by decide)⟩
set_option maxRecDepth 100000 in
theorem zt_e0_20 : zt_eOK "java/lang/String" (594, 4, 242, 0, 7002) := ⟨_, rfl, (zt_in (j := 7) (k := 2) rfl rfl)⟩
set_option maxRecDepth 100000 in
theorem zt_e0_19 : zt_eOK "java/lang/String" (591, 4, 239, 0, 6231) := ⟨_, rfl, (zt_in (j := 6) (k := 231) rfl rfl)⟩
set_option maxRecDepth 100000 in
theorem zt_e0_18 : zt_eOK "java/lang/String" (590, 4, 237, 0, 6224) := ⟨_, rfl, (zt_in (j := 6) (k := 224) rfl rfl)⟩
set_option maxRecDepth 100000 in
theorem zt_e0_17 : zt_eOK "java/lang/String" (586, 4, 215, 0, 6110) := ⟨_, rfl, (zt_in (j := 6) (k := 110) rfl rfl)⟩
set_option maxRecDepth 100000 in
theorem zt_e0_16 : zt_eOK "java/lang/String" (552, 12, 1, 0, 5116) := ⟨_, rfl, (zt_in (j := 5) (k := 116) rfl rfl)⟩
set_option maxRecDepth 100000 in
theorem zt_e0_15 : zt_eOK "java/lang/String" (549, 12, 2, 0, 5121) := ⟨_, rfl, (zt_in (j := 5) (k := 121) rfl rfl)⟩
set_option maxRecDepth 100000 in
theorem zt_e0_14 : zt_eOK "java/lang/String" (498, 4, 192, 0, 6020) := ⟨_, rfl, (zt_in (j := 6) (k := 20) rfl rfl)⟩
set_option maxRecDepth 100000 in
theorem zt_e0_13 : zt_eOK "java/lang/String" (495, 4, 191, 0, 6016) := ⟨_, rfl, (zt_in (j := 6) (k := 16) rfl rfl)⟩
set_option maxRecDepth 100000 in
theorem zt_e0_12 : zt_eOK "java/lang/String" (492, 6, 190, 0, 6012) := ⟨_, rfl, (zt_in (j := 6) (k := 12) rfl rfl)⟩
set_option maxRecDepth 100000 in
theorem zt_e0_11 : zt_eOK "java/lang/String" (489, 8, 159, 0, 5112) := ⟨_, rfl, (zt_in (j := 5) (k := 112) rfl rfl)⟩
set_option maxRecDepth 100000 in
theorem zt_e0_10 : zt_eOK "java/lang/String" (335, 6, 180, 0, 5195) := ⟨_, rfl, (zt_in (j := 5) (k := 195) rfl rfl)⟩
set_option maxRecDepth 100000 in
theorem zt_e0_9 : zt_eOK "java/lang/String" (212, 17, 0, 0, 5213) := (zt_in (j := 5) (k := 213) rfl rfl)
set_option maxRecDepth 100000 in
theorem zt_e0_8 : zt_eOK "java/lang/String" (106, 4, 146, 0, 5214) := ⟨_, rfl, (zt_in (j := 5) (k := 214) rfl rfl)⟩
set_option maxRecDepth 100000 in
theorem zt_e0_7 : zt_eOK "java/lang/String" (54, 4, 163, 0, 5130) := ⟨_, rfl, (zt_in (j := 5) (k := 130) rfl rfl)⟩
set_option maxRecDepth 100000 in
theorem zt_e0_6 : zt_eOK "java/lang/String" (47, 4, 187, 0, 5227) := ⟨_, rfl, (zt_in (j := 5) (k := 227) rfl rfl)⟩
set_option maxRecDepth 100000 in
theorem zt_e0_5 : zt_eOK "java/lang/String" (38, 14, 0, 0, 5199) := ⟨_, rfl, (zt_in (j := 5) (k := 199) rfl rfl)⟩
set_option maxRecDepth 100000 in
theorem zt_e0_4 : zt_eOK "java/lang/String" (23, 0, 0, 3, 5233) := ⟨_, "java/lang/String", rfl, by decide, (zt_in (j := 5) (k := 233) rfl rfl), Or.inl rfl⟩
