set_option maxRecDepth 100000 in
theorem zt_m_144 : zt_mOK (⟨"java/lang/StringLatin1", "canEncode", "(C)Z"⟩, prog_33_method_3_code, 1, some (.boolean), [], 24, 1, 0, 1, 99999, 0) := ⟨(zt_in (j := 5) (k := 57) rfl rfl), rfl, (zt_in (j := 1) (k := 28) rfl rfl), (zt_in (j := 5) (k := 56) rfl rfl), Or.inl rfl, by decide +kernel, by decide, fun h => absurd h (by decide)⟩
set_option maxRecDepth 100000 in
theorem zt_m_145 : zt_mOK (⟨"java/lang/AbstractStringBuilder", "inflate", "()V"⟩, prog_17_method_11_code, 2, none, [], 20, 0, 0, 0, 99999, 0) := ⟨(zt_in (j := 5) (k := 61) rfl rfl), rfl, (zt_in (j := 1) (k := 22) rfl rfl), (zt_in (j := 5) (k := 60) rfl rfl), Or.inl rfl, by decide +kernel, by decide, fun h => absurd h (by decide)⟩
set_option maxRecDepth 100000 in
theorem zt_m_146 : zt_mOK (⟨"java/lang/StringLatin1", "inflate", "([BI[BII)V"⟩, prog_33_method_50_code, 5, none, [], 24, 5, 0, 1, 99999, 0) := ⟨(zt_in (j := 5) (k := 64) rfl rfl), rfl, (zt_in (j := 1) (k := 28) rfl rfl), (zt_in (j := 5) (k := 63) rfl rfl), Or.inl rfl, by decide +kernel, by decide, fun h => absurd h (by decide)⟩
set_option maxRecDepth 100000 in
theorem zt_m_147 : zt_mOK (⟨"java/lang/StringUTF16", "inflate", "([BI[BII)V"⟩, prog_34_method_86_code, 6, none, [], 21, 5, 0, 1, 99999, 0) := ⟨(zt_in (j := 5) (k := 67) rfl rfl), rfl, (zt_in (j := 1) (k := 25) rfl rfl), (zt_in (j := 5) (k := 66) rfl rfl), Or.inl rfl, by decide +kernel, by decide, fun h => absurd h (by decide)⟩
set_option maxRecDepth 100000 in
theorem zt_m_148 : zt_mOK (⟨"java/lang/StringUTF16", "checkBoundsOffCount", "(II[B)V"⟩, prog_34_method_94_code, 3, none, [], 21, 3, 0, 1, 99999, 0) := ⟨(zt_in (j := 5) (k := 70) rfl rfl), rfl, (zt_in (j := 1) (k := 25) rfl rfl), (zt_in (j := 5) (k := 69) rfl rfl), Or.inl rfl, by decide +kernel, by decide, fun h => absurd h (by decide)⟩
set_option maxRecDepth 100000 in
theorem zt_m_149 : zt_mOK (⟨"java/lang/StringUTF16", "length", "([B)I"⟩, prog_34_method_6_code, 1, some (.int), [], 21, 1, 0, 1, 99999, 0) := ⟨(zt_in (j := 5) (k := 73) rfl rfl), rfl, (zt_in (j := 1) (k := 25) rfl rfl), (zt_in (j := 5) (k := 72) rfl rfl), Or.inl rfl, by decide +kernel, by decide, fun h => absurd h (by decide)⟩
set_option maxRecDepth 100000 in
theorem zt_m_150 : zt_mOK (⟨"java/lang/String", "checkBoundsOffCount", "(III)I"⟩, prog_31_method_157_code, 3, some (.int), [], 0, 3, 0, 1, 99999, 0) := ⟨(zt_in (j := 5) (k := 76) rfl rfl), rfl, (zt_in (j := 1) (k := 24) rfl rfl), (zt_in (j := 5) (k := 75) rfl rfl), Or.inl rfl, by decide +kernel, by decide, fun h => absurd h (by decide)⟩
set_option maxRecDepth 100000 in
theorem zt_m_151 : zt_mOK (⟨"jdk/internal/util/Preconditions", "checkFromIndexSize", "(IIILjava/util/function/BiFunction;)I"⟩, prog_44_method_13_code, 4, some (.int), [], 25, 4, 0, 1, 99999, 0) := ⟨(zt_in (j := 5) (k := 81) rfl rfl), rfl, (zt_in (j := 1) (k := 29) rfl rfl), (zt_in (j := 5) (k := 80) rfl rfl), Or.inl rfl, by decide +kernel, by decide, fun h => absurd h (by decide)⟩
set_option maxRecDepth 100000 in
theorem zt_m_152 : zt_mOK (⟨"java/lang/StringUTF16", "putChar", "([BII)V"⟩, prog_34_method_4_code, 3, none, [], 21, 3, 0, 1, 99999, 0) := ⟨(zt_in (j := 5) (k := 84) rfl rfl), rfl, (zt_in (j := 1) (k := 25) rfl rfl), (zt_in (j := 5) (k := 83) rfl rfl), Or.inl rfl, by decide +kernel, by decide, fun h => absurd h (by decide)⟩
set_option maxRecDepth 100000 in
theorem zt_m_153 : zt_mOK (⟨"java/lang/StringUTF16", "putCharSB", "([BII)V"⟩, prog_34_method_71_code, 3, none, [], 21, 3, 0, 1, 99999, 0) := ⟨(zt_in (j := 5) (k := 93) rfl rfl), rfl, (zt_in (j := 1) (k := 25) rfl rfl), (zt_in (j := 5) (k := 92) rfl rfl), Or.inl rfl, by decide +kernel, by decide, fun h => absurd h (by decide)⟩
set_option maxRecDepth 100000 in
theorem zt_m_154 : zt_mOK (⟨"java/lang/StringUTF16", "checkIndex", "(I[B)V"⟩, prog_34_method_91_code, 2, none, [], 21, 2, 0, 1, 99999, 0) := ⟨(zt_in (j := 5) (k := 96) rfl rfl), rfl, (zt_in (j := 1) (k := 25) rfl rfl), (zt_in (j := 5) (k := 95) rfl rfl), Or.inl rfl, by decide +kernel, by decide, fun h => absurd h (by decide)⟩
set_option maxRecDepth 100000 in
theorem zt_m_155 : zt_mOK (⟨"java/lang/String", "checkIndex", "(II)V"⟩, prog_31_method_155_code, 2, none, [], 0, 2, 0, 1, 99999, 0) := ⟨(zt_in (j := 5) (k := 99) rfl rfl), rfl, (zt_in (j := 1) (k := 24) rfl rfl), (zt_in (j := 5) (k := 98) rfl rfl), Or.inl rfl, by decide +kernel, by decide, fun h => absurd h (by decide)⟩
set_option maxRecDepth 100000 in
theorem zt_m_156 : zt_mOK (⟨"jdk/internal/util/Preconditions", "checkIndex", "(IILjava/util/function/BiFunction;)I"⟩, prog_44_method_11_code, 3, some (.int), [], 25, 3, 0, 1, 99999, 0) := ⟨(zt_in (j := 5) (k := 102) rfl rfl), rfl, (zt_in (j := 1) (k := 29) rfl rfl), (zt_in (j := 5) (k := 101) rfl rfl), Or.inl rfl, by decide +kernel, by decide, fun h => absurd h (by decide)⟩
set_option maxRecDepth 100000 in
theorem zt_m_157 : zt_mOK (⟨"java/lang/StringBuilder", "toString", "()Ljava/lang/String;"⟩, prog_32_method_42_code, 1, some (.object "java/lang/String"), [], 1, 0, 0, 0, 0, 0) := ⟨(zt_in (j := 5) (k := 106) rfl rfl), rfl, (zt_in (j := 1) (k := 23) rfl rfl), (zt_in (j := 5) (k := 104) rfl rfl), Or.inr (zt_in (j := 5) (k := 105) rfl rfl), by decide +kernel, by decide, fun h => absurd h (by decide)⟩
set_option maxRecDepth 100000 in
theorem zt_m_158 : zt_mOK (⟨"java/lang/String", "<init>", "(Ljava/lang/StringBuilder;)V"⟩, prog_31_method_53_code, 2, none, [], 0, 1, 0, 2, 99999, 0) := ⟨(zt_in (j := 5) (k := 111) rfl rfl), rfl, (zt_in (j := 1) (k := 24) rfl rfl), (zt_in (j := 5) (k := 110) rfl rfl), Or.inl rfl, by decide +kernel, by decide, fun _ => rfl⟩
set_option maxRecDepth 100000 in
theorem zt_m_159 : zt_mOK (⟨"java/lang/String", "<init>", "(Ljava/lang/AbstractStringBuilder;Ljava/lang/Void;)V"⟩, prog_31_method_150_code, 5, none, [], 0, 2, 0, 2, 99999, 0) := ⟨(zt_in (j := 5) (k := 114) rfl rfl), rfl, (zt_in (j := 1) (k := 24) rfl rfl), (zt_in (j := 5) (k := 113) rfl rfl), Or.inl rfl, by decide +kernel, by decide, fun _ => rfl⟩
set_option maxRecDepth 100000 in
theorem zt_m_160 : zt_mOK (⟨"java/lang/AbstractStringBuilder", "getValue", "()[B"⟩, prog_17_method_64_code, 1, some (.array (.byte)), [], 20, 0, 0, 0, 99999, 0) := ⟨(zt_in (j := 5) (k := 120) rfl rfl), rfl, (zt_in (j := 1) (k := 22) rfl rfl), (zt_in (j := 5) (k := 117) rfl rfl), Or.inl rfl, by decide +kernel, by decide, fun h => absurd h (by decide)⟩
set_option maxRecDepth 100000 in
theorem zt_m_161 : zt_mOK (⟨"java/lang/StringBuilder", "length", "()I"⟩, prog_32_method_93_code, 1, some (.int), [], 1, 0, 0, 0, 0, 0) := ⟨(zt_in (j := 5) (k := 126) rfl rfl), rfl, (zt_in (j := 1) (k := 23) rfl rfl), (zt_in (j := 5) (k := 125) rfl rfl), Or.inr (zt_in (j := 8) (k := 193) rfl rfl), by decide +kernel, by decide, fun h => absurd h (by decide)⟩
set_option maxRecDepth 100000 in
theorem zt_m_162 : zt_mOK (⟨"java/lang/AbstractStringBuilder", "length", "()I"⟩, prog_17_method_6_code, 1, some (.int), [], 20, 0, 0, 0, 99999, 0) := ⟨(zt_in (j := 5) (k := 128) rfl rfl), rfl, (zt_in (j := 1) (k := 22) rfl rfl), (zt_in (j := 5) (k := 122) rfl rfl), Or.inl rfl, by decide +kernel, by decide, fun h => absurd h (by decide)⟩
set_option maxRecDepth 100000 in
theorem zt_m_163 : zt_mOK (⟨"java/util/Arrays", "copyOfRange", "([BII)[B"⟩, prog_39_method_132_code, 3, some (.array (.byte)), [], 23, 3, 0, 1, 99999, 0) := ⟨(zt_in (j := 5) (k := 132) rfl rfl), rfl, (zt_in (j := 1) (k := 27) rfl rfl), (zt_in (j := 5) (k := 131) rfl rfl), Or.inl rfl, by decide +kernel, by decide, fun h => absurd h (by decide)⟩
set_option maxRecDepth 100000 in
theorem zt_m_164 : zt_mOK (⟨"java/util/Arrays", "copyOfRangeByte", "([BII)[B"⟩, prog_39_method_133_code, 5, some (.array (.byte)), [], 23, 3, 0, 1, 99999, 0) := ⟨(zt_in (j := 5) (k := 135) rfl rfl), rfl, (zt_in (j := 1) (k := 27) rfl rfl), (zt_in (j := 5) (k := 134) rfl rfl), Or.inl rfl, by decide +kernel, by decide, fun h => absurd h (by decide)⟩
set_option maxRecDepth 100000 in
theorem zt_m_165 : zt_mOK (⟨"java/util/Arrays", "checkLength", "(II)V"⟩, prog_39_method_131_code, 2, none, [], 23, 2, 0, 1, 99999, 0) := ⟨(zt_in (j := 5) (k := 138) rfl rfl), rfl, (zt_in (j := 1) (k := 27) rfl rfl), (zt_in (j := 5) (k := 137) rfl rfl), Or.inl rfl, by decide +kernel, by decide, fun h => absurd h (by decide)⟩
set_option maxRecDepth 100000 in
theorem zt_m_166 : zt_mOK (⟨"java/lang/StringBuilder", "append", "(I)Ljava/lang/StringBuilder;"⟩, prog_32_method_15_code, 2, some (.object "java/lang/StringBuilder"), [], 1, 1, 0, 0, 0, 0) := ⟨(zt_in (j := 5) (k := 145) rfl rfl), rfl, (zt_in (j := 1) (k := 23) rfl rfl), (zt_in (j := 5) (k := 143) rfl rfl), Or.inr (zt_in (j := 5) (k := 144) rfl rfl), by decide +kernel, by decide, fun h => absurd h (by decide)⟩
set_option maxRecDepth 100000 in
theorem zt_m_167 : zt_mOK (⟨"java/lang/AbstractStringBuilder", "append", "(I)Ljava/lang/AbstractStringBuilder;"⟩, prog_17_method_32_code, 4, some (.object "java/lang/AbstractStringBuilder"), [], 20, 1, 0, 0, 99999, 0) := ⟨(zt_in (j := 5) (k := 148) rfl rfl), rfl, (zt_in (j := 1) (k := 22) rfl rfl), (zt_in (j := 5) (k := 147) rfl rfl), Or.inl rfl, by decide +kernel, by decide, fun h => absurd h (by decide)⟩
set_option maxRecDepth 100000 in
theorem zt_m_168 : zt_mOK (⟨"java/lang/Integer", "stringSize", "(I)I"⟩, prog_26_method_13_code, 4, some (.int), [], 26, 1, 0, 1, 99999, 0) := ⟨(zt_in (j := 5) (k := 151) rfl rfl), rfl, (zt_in (j := 1) (k := 30) rfl rfl), (zt_in (j := 5) (k := 150) rfl rfl), Or.inl rfl, by decide +kernel, by decide, fun h => absurd h (by decide)⟩
set_option maxRecDepth 100000 in
theorem zt_m_169 : zt_mOK (⟨"java/lang/Integer", "getChars", "(II[B)I"⟩, prog_26_method_12_code, 7, some (.int), [], 26, 3, 0, 1, 99999, 0) := ⟨(zt_in (j := 5) (k := 154) rfl rfl), rfl, (zt_in (j := 1) (k := 30) rfl rfl), (zt_in (j := 5) (k := 153) rfl rfl), Or.inl rfl, by decide +kernel, by decide, fun h => absurd h (by decide)⟩
set_option maxRecDepth 100000 in
theorem zt_m_170 : zt_mOK (⟨"java/lang/StringUTF16", "getChars", "(III[B)I"⟩, prog_34_method_77_code, 5, some (.int), [], 21, 4, 0, 1, 99999, 0) := ⟨(zt_in (j := 5) (k := 161) rfl rfl), rfl, (zt_in (j := 1) (k := 25) rfl rfl), (zt_in (j := 5) (k := 160) rfl rfl), Or.inl rfl, by decide +kernel, by decide, fun h => absurd h (by decide)⟩
set_option maxRecDepth 100000 in
theorem zt_m_171 : zt_mOK (⟨"java/lang/StringUTF16", "checkBoundsBeginEnd", "(II[B)V"⟩, prog_34_method_93_code, 3, none, [], 21, 3, 0, 1, 99999, 0) := ⟨(zt_in (j := 5) (k := 164) rfl rfl), rfl, (zt_in (j := 1) (k := 25) rfl rfl), (zt_in (j := 5) (k := 163) rfl rfl), Or.inl rfl, by decide +kernel, by decide, fun h => absurd h (by decide)⟩
set_option maxRecDepth 100000 in
theorem zt_m_172 : zt_mOK (⟨"java/lang/String", "checkBoundsBeginEnd", "(III)V"⟩, prog_31_method_158_code, 3, none, [], 0, 3, 0, 1, 99999, 0) := ⟨(zt_in (j := 5) (k := 167) rfl rfl), rfl, (zt_in (j := 1) (k := 24) rfl rfl), (zt_in (j := 5) (k := 166) rfl rfl), Or.inl rfl, by decide +kernel, by decide, fun h => absurd h (by decide)⟩
set_option maxRecDepth 100000 in
theorem zt_m_173 : zt_mOK (⟨"jdk/internal/util/Preconditions", "checkFromToIndex", "(IIILjava/util/function/BiFunction;)I"⟩, prog_44_method_12_code, 4, some (.int), [], 25, 4, 0, 1, 99999, 0) := ⟨(zt_in (j := 5) (k := 170) rfl rfl), rfl, (zt_in (j := 1) (k := 29) rfl rfl), (zt_in (j := 5) (k := 169) rfl rfl), Or.inl rfl, by decide +kernel, by decide, fun h => absurd h (by decide)⟩
set_option maxRecDepth 100000 in
theorem zt_m_174 : zt_mOK (⟨"java/lang/StringUTF16", "getChars", "(II[B)I"⟩, prog_34_method_89_code, 7, some (.int), [], 21, 3, 0, 1, 99999, 0) := ⟨(zt_in (j := 5) (k := 173) rfl rfl), rfl, (zt_in (j := 1) (k := 25) rfl rfl), (zt_in (j := 5) (k := 172) rfl rfl), Or.inl rfl, by decide +kernel, by decide, fun h => absurd h (by decide)⟩
set_option maxRecDepth 100000 in
theorem zt_m_175 : zt_mOK (⟨"java/lang/StringBuilder", "append", "(Ljava/lang/String;)Ljava/lang/StringBuilder;"⟩, prog_32_method_7_code, 2, some (.object "java/lang/StringBuilder"), [], 1, 1, 0, 0, 0, 0) := ⟨(zt_in (j := 5) (k := 180) rfl rfl), rfl, (zt_in (j := 1) (k := 23) rfl rfl), (zt_in (j := 5) (k := 178) rfl rfl), Or.inr (zt_in (j := 5) (k := 179) rfl rfl), by decide +kernel, by decide, fun h => absurd h (by decide)⟩
set_option maxRecDepth 100000 in
theorem zt_m_176 : zt_mOK (⟨"java/lang/AbstractStringBuilder", "append", "(Ljava/lang/String;)Ljava/lang/AbstractStringBuilder;"⟩, prog_17_method_22_code, 3, some (.object "java/lang/AbstractStringBuilder"), [], 20, 1, 0, 0, 99999, 0) := ⟨(zt_in (j := 5) (k := 183) rfl rfl), rfl, (zt_in (j := 1) (k := 22) rfl rfl), (zt_in (j := 5) (k := 182) rfl rfl), Or.inl rfl, by decide +kernel, by decide, fun h => absurd h (by decide)⟩
set_option maxRecDepth 100000 in
theorem zt_m_177 : zt_mOK (⟨"java/lang/AbstractStringBuilder", "appendNull", "()Ljava/lang/AbstractStringBuilder;"⟩, prog_17_method_26_code, 3, some (.object "java/lang/AbstractStringBuilder"), [], 20, 0, 0, 0, 99999, 0) := ⟨(zt_in (j := 5) (k := 187) rfl rfl), rfl, (zt_in (j := 1) (k := 22) rfl rfl), (zt_in (j := 5) (k := 186) rfl rfl), Or.inl rfl, by decide +kernel, by decide, fun h => absurd h (by decide)⟩
set_option maxRecDepth 100000 in
theorem zt_m_178 : zt_mOK (⟨"java/lang/StringUTF16", "putCharsAt", "([BICCCC)I"⟩, prog_34_method_81_code, 7, some (.int), [], 21, 6, 0, 1, 99999, 0) := ⟨(zt_in (j := 5) (k := 190) rfl rfl), rfl, (zt_in (j := 1) (k := 25) rfl rfl), (zt_in (j := 5) (k := 189) rfl rfl), Or.inl rfl, by decide +kernel, by decide, fun h => absurd h (by decide)⟩
set_option maxRecDepth 100000 in
theorem zt_m_179 : zt_mOK (⟨"java/lang/String", "length", "()I"⟩, prog_31_method_54_code, 1, some (.int), [], 0, 0, 0, 0, 0, 0) := ⟨(zt_in (j := 5) (k := 194) rfl rfl), rfl, (zt_in (j := 1) (k := 24) rfl rfl), (zt_in (j := 5) (k := 192) rfl rfl), Or.inr (zt_in (j := 5) (k := 193) rfl rfl), by decide +kernel, by decide, fun h => absurd h (by decide)⟩
set_option maxRecDepth 100000 in
theorem zt_m_180 : zt_mOK (⟨"java/lang/String", "coder", "()B"⟩, prog_31_method_152_code, 1, some (.byte), [], 0, 0, 0, 0, 0, 0) := ⟨(zt_in (j := 5) (k := 198) rfl rfl), rfl, (zt_in (j := 1) (k := 24) rfl rfl), (zt_in (j := 5) (k := 196) rfl rfl), Or.inr (zt_in (j := 5) (k := 197) rfl rfl), by decide +kernel, by decide, fun h => absurd h (by decide)⟩
set_option maxRecDepth 100000 in
theorem zt_m_181 : zt_mOK (⟨"java/lang/AbstractStringBuilder", "putStringAt", "(ILjava/lang/String;)V"⟩, prog_17_method_73_code, 3, none, [], 20, 2, 0, 0, 99999, 0) := ⟨(zt_in (j := 5) (k := 203) rfl rfl), rfl, (zt_in (j := 1) (k := 22) rfl rfl), (zt_in (j := 5) (k := 202) rfl rfl), Or.inl rfl, by decide +kernel, by decide, fun h => absurd h (by decide)⟩
set_option maxRecDepth 100000 in
theorem zt_m_182 : zt_mOK (⟨"java/lang/AbstractStringBuilder", "inflateIfNeededFor", "(Ljava/lang/String;)V"⟩, prog_17_method_71_code, 2, none, [], 20, 1, 0, 0, 99999, 0) := ⟨(zt_in (j := 5) (k := 207) rfl rfl), rfl, (zt_in (j := 1) (k := 22) rfl rfl), (zt_in (j := 5) (k := 206) rfl rfl), Or.inl rfl, by decide +kernel, by decide, fun h => absurd h (by decide)⟩
set_option maxRecDepth 100000 in
theorem zt_m_183 : zt_mOK (⟨"java/lang/String", "getBytes", "([BIB)V"⟩, prog_31_method_147_code, 4, none, [], 0, 3, 0, 0, 0, 0) := ⟨(zt_in (j := 5) (k := 212) rfl rfl), rfl, (zt_in (j := 1) (k := 24) rfl rfl), (zt_in (j := 5) (k := 210) rfl rfl), Or.inr (zt_in (j := 5) (k := 211) rfl rfl), by decide +kernel, by decide, fun h => absurd h (by decide)⟩
set_option maxRecDepth 100000 in
theorem zt_m_184 : zt_mOK (⟨"java/lang/StringUTF16", "compress", "([BII)[B"⟩, prog_34_method_17_code, 6, some (.array (.byte)), [], 21, 3, 0, 1, 99999, 0) := ⟨(zt_in (j := 5) (k := 219) rfl rfl), rfl, (zt_in (j := 1) (k := 25) rfl rfl), (zt_in (j := 5) (k := 218) rfl rfl), Or.inl rfl, by decide +kernel, by decide, fun h => absurd h (by decide)⟩
set_option maxRecDepth 100000 in
theorem zt_m_185 : zt_mOK (⟨"java/lang/StringUTF16", "compress", "([BI[BII)I"⟩, prog_34_method_22_code, 7, some (.int), [], 21, 5, 0, 1, 99999, 0) := ⟨(zt_in (j := 5) (k := 222) rfl rfl), rfl, (zt_in (j := 1) (k := 25) rfl rfl), (zt_in (j := 5) (k := 221) rfl rfl), Or.inl rfl, by decide +kernel, by decide, fun h => absurd h (by decide)⟩
set_option maxRecDepth 100000 in
theorem zt_m_186 : zt_mOK (⟨"java/lang/StringUTF16", "getChar", "([BI)C"⟩, prog_34_method_5_code, 2, some (.char), [], 21, 2, 0, 1, 99999, 0) := ⟨(zt_in (j := 5) (k := 225) rfl rfl), rfl, (zt_in (j := 1) (k := 25) rfl rfl), (zt_in (j := 5) (k := 224) rfl rfl), Or.inl rfl, by decide +kernel, by decide, fun h => absurd h (by decide)⟩
set_option maxRecDepth 100000 in
theorem zt_m_187 : zt_mOK (⟨"java/lang/StringUTF16", "coderFromArrayLen", "([BI)B"⟩, prog_34_method_15_code, 2, some (.byte), [], 21, 2, 0, 1, 99999, 0) := ⟨(zt_in (j := 5) (k := 229) rfl rfl), rfl, (zt_in (j := 1) (k := 25) rfl rfl), (zt_in (j := 5) (k := 228) rfl rfl), Or.inl rfl, by decide +kernel, by decide, fun h => absurd h (by decide)⟩
set_option maxRecDepth 100000 in
theorem zt_m_188 : zt_mOK (⟨"ColumnVaultLaw", "code", "(Ljava/lang/String;)J"⟩, method_5_code, 4, some (.long), [], 17, 1, 0, 1, 99999, 0) := ⟨(zt_in (j := 6) (k := 5) rfl rfl), rfl, (zt_in (j := 1) (k := 0) rfl rfl), (zt_in (j := 6) (k := 4) rfl rfl), Or.inl rfl, by decide +kernel, by decide, fun h => absurd h (by decide)⟩
set_option maxRecDepth 100000 in
theorem zt_m_189 : zt_mOK (⟨"java/lang/String", "charAt", "(I)C"⟩, prog_31_method_56_code, 2, some (.char), [], 0, 1, 0, 0, 0, 0) := ⟨(zt_in (j := 6) (k := 11) rfl rfl), rfl, (zt_in (j := 1) (k := 24) rfl rfl), (zt_in (j := 6) (k := 9) rfl rfl), Or.inr (zt_in (j := 6) (k := 10) rfl rfl), by decide +kernel, by decide, fun h => absurd h (by decide)⟩
set_option maxRecDepth 100000 in
theorem zt_m_190 : zt_mOK (⟨"java/lang/String", "isLatin1", "()Z"⟩, prog_31_method_154_code, 1, some (.boolean), [], 0, 0, 0, 0, 0, 0) := ⟨(zt_in (j := 6) (k := 15) rfl rfl), rfl, (zt_in (j := 1) (k := 24) rfl rfl), (zt_in (j := 6) (k := 13) rfl rfl), Or.inr (zt_in (j := 6) (k := 14) rfl rfl), by decide +kernel, by decide, fun h => absurd h (by decide)⟩
set_option maxRecDepth 100000 in
theorem zt_m_191 : zt_mOK (⟨"java/lang/StringLatin1", "charAt", "([BI)C"⟩, prog_33_method_2_code, 2, some (.char), [], 24, 2, 0, 1, 99999, 0) := ⟨(zt_in (j := 6) (k := 18) rfl rfl), rfl, (zt_in (j := 1) (k := 28) rfl rfl), (zt_in (j := 6) (k := 17) rfl rfl), Or.inl rfl, by decide +kernel, by decide, fun h => absurd h (by decide)⟩
set_option maxRecDepth 100000 in
theorem zt_m_192 : zt_mOK (⟨"java/lang/StringUTF16", "charAt", "([BI)C"⟩, prog_34_method_83_code, 2, some (.char), [], 21, 2, 0, 1, 99999, 0) := ⟨(zt_in (j := 6) (k := 22) rfl rfl), rfl, (zt_in (j := 1) (k := 25) rfl rfl), (zt_in (j := 6) (k := 21) rfl rfl), Or.inl rfl, by decide +kernel, by decide, fun h => absurd h (by decide)⟩
set_option maxRecDepth 100000 in
theorem zt_m_193 : zt_mOK (⟨"ColumnVault", "remove", "(II)I"⟩, prog_1_method_6_code, 4, some (.int), [], 12, 2, 0, 0, 0, 0) := ⟨(zt_in (j := 6) (k := 28) rfl rfl), rfl, (zt_in (j := 1) (k := 1) rfl rfl), (zt_in (j := 6) (k := 26) rfl rfl), Or.inr (zt_in (j := 6) (k := 27) rfl rfl), by decide +kernel, by decide, fun h => absurd h (by decide)⟩
set_option maxRecDepth 100000 in
theorem zt_m_194 : zt_mOK (⟨"ColumnVault$Sheet", "dropRow", "(I)V"⟩, prog_10_method_13_code, 4, none, [], 10, 1, 0, 0, 0, 0) := ⟨(zt_in (j := 6) (k := 32) rfl rfl), rfl, (zt_in (j := 1) (k := 3) rfl rfl), (zt_in (j := 6) (k := 30) rfl rfl), Or.inr (zt_in (j := 6) (k := 31) rfl rfl), by decide +kernel, by decide, fun h => absurd h (by decide)⟩
set_option maxRecDepth 100000 in
theorem zt_m_195 : zt_mOK (⟨"ColumnVault$Sheet", "dropFromOrder", "(I)V"⟩, prog_10_method_14_code, 5, none, [], 10, 1, 0, 0, 0, 0) := ⟨(zt_in (j := 6) (k := 36) rfl rfl), rfl, (zt_in (j := 1) (k := 3) rfl rfl), (zt_in (j := 6) (k := 35) rfl rfl), Or.inr (zt_in (j := 0) (k := 30) rfl rfl), by decide +kernel, by decide, fun h => absurd h (by decide)⟩
set_option maxRecDepth 100000 in
theorem zt_m_196 : zt_mOK (⟨"ColumnVaultLaw", "isRemoved", "(LColumnVault;[II)Z"⟩, method_16_code, 13, some (.boolean), [], 17, 3, 0, 1, 99999, 0) := ⟨(zt_in (j := 6) (k := 39) rfl rfl), rfl, (zt_in (j := 1) (k := 0) rfl rfl), (zt_in (j := 6) (k := 38) rfl rfl), Or.inl rfl, by decide +kernel, by decide, fun h => absurd h (by decide)⟩
set_option maxRecDepth 100000 in
theorem zt_m_197 : zt_mOK (⟨"ColumnVaultLaw", "order", "(LColumnVault;I)[I"⟩, method_12_code, 4, some (.array (.int)), [], 17, 2, 0, 1, 99999, 0) := ⟨(zt_in (j := 6) (k := 42) rfl rfl), rfl, (zt_in (j := 1) (k := 0) rfl rfl), (zt_in (j := 6) (k := 41) rfl rfl), Or.inl rfl, by decide +kernel, by decide, fun h => absurd h (by decide)⟩
set_option maxRecDepth 100000 in
theorem zt_m_198 : zt_mOK (⟨"ColumnVaultLaw", "choice", "(LColumnVault;I)[Z"⟩, method_13_code, 4, some (.array (.boolean)), [], 17, 2, 0, 1, 99999, 0) := ⟨(zt_in (j := 6) (k := 45) rfl rfl), rfl, (zt_in (j := 1) (k := 0) rfl rfl), (zt_in (j := 6) (k := 44) rfl rfl), Or.inl rfl, by decide +kernel, by decide, fun h => absurd h (by decide)⟩
set_option maxRecDepth 100000 in
theorem zt_m_199 : zt_mOK (⟨"ColumnVault", "isChosen", "(II)Z"⟩, prog_1_method_15_code, 4, some (.boolean), [], 12, 2, 0, 0, 0, 0) := ⟨(zt_in (j := 6) (k := 49) rfl rfl), rfl, (zt_in (j := 1) (k := 1) rfl rfl), (zt_in (j := 6) (k := 47) rfl rfl), Or.inr (zt_in (j := 6) (k := 48) rfl rfl), by decide +kernel, by decide, fun h => absurd h (by decide)⟩
set_option maxRecDepth 100000 in
theorem zt_m_200 : zt_mOK (⟨"ColumnVaultLaw", "rows", "(LColumnVault;I)[[J"⟩, method_11_code, 5, some (.array (.array (.long))), [], 17, 2, 0, 1, 99999, 0) := ⟨(zt_in (j := 6) (k := 53) rfl rfl), rfl, (zt_in (j := 1) (k := 0) rfl rfl), (zt_in (j := 6) (k := 52) rfl rfl), Or.inl rfl, by decide +kernel, by decide, fun h => absurd h (by decide)⟩
set_option maxRecDepth 100000 in
theorem zt_m_201 : zt_mOK (⟨"ColumnVault", "placeOf", "(II)I"⟩, prog_1_method_14_code, 4, some (.int), [], 12, 2, 0, 0, 0, 0) := ⟨(zt_in (j := 6) (k := 59) rfl rfl), rfl, (zt_in (j := 1) (k := 1) rfl rfl), (zt_in (j := 6) (k := 57) rfl rfl), Or.inr (zt_in (j := 6) (k := 58) rfl rfl), by decide +kernel, by decide, fun h => absurd h (by decide)⟩
set_option maxRecDepth 100000 in
theorem zt_m_202 : zt_mOK (⟨"ColumnVault$Sheet", "placeInOrder", "(I)I"⟩, prog_10_method_16_code, 3, some (.int), [], 10, 1, 0, 0, 0, 0) := ⟨(zt_in (j := 6) (k := 63) rfl rfl), rfl, (zt_in (j := 1) (k := 3) rfl rfl), (zt_in (j := 6) (k := 61) rfl rfl), Or.inr (zt_in (j := 6) (k := 62) rfl rfl), by decide +kernel, by decide, fun h => absurd h (by decide)⟩
set_option maxRecDepth 100000 in
theorem zt_m_203 : zt_mOK (⟨"ColumnVaultLaw", "isSorted", "(LColumnVault;[II)Z"⟩, method_17_code, 19, some (.boolean), [], 17, 3, 0, 1, 99999, 0) := ⟨(zt_in (j := 6) (k := 68) rfl rfl), rfl, (zt_in (j := 1) (k := 0) rfl rfl), (zt_in (j := 6) (k := 67) rfl rfl), Or.inl rfl, by decide +kernel, by decide, fun h => absurd h (by decide)⟩
set_option maxRecDepth 100000 in
theorem zt_m_204 : zt_mOK (⟨"ColumnVault", "sort", "(IIZZ)I"⟩, prog_1_method_12_code, 7, some (.int), [], 12, 4, 0, 0, 0, 0) := ⟨(zt_in (j := 6) (k := 72) rfl rfl), rfl, (zt_in (j := 1) (k := 1) rfl rfl), (zt_in (j := 6) (k := 70) rfl rfl), Or.inr (zt_in (j := 6) (k := 71) rfl rfl), by decide +kernel, by decide, fun h => absurd h (by decide)⟩
set_option maxRecDepth 100000 in
theorem zt_m_205 : zt_mOK (⟨"ColumnVault$Sheet", "orderBy", "(IZZ)V"⟩, prog_10_method_18_code, 9, none, [], 10, 3, 0, 0, 0, 0) := ⟨(zt_in (j := 6) (k := 76) rfl rfl), rfl, (zt_in (j := 1) (k := 3) rfl rfl), (zt_in (j := 6) (k := 74) rfl rfl), Or.inr (zt_in (j := 6) (k := 75) rfl rfl), by decide +kernel, by decide, fun h => absurd h (by decide)⟩
set_option maxRecDepth 100000 in
theorem zt_m_206 : zt_mOK (⟨"ColumnVault", "isAhead", "(JJZZ)Z"⟩, prog_1_method_59_code, 6, some (.boolean), [], 12, 4, 0, 1, 99999, 0) := ⟨(zt_in (j := 6) (k := 79) rfl rfl), rfl, (zt_in (j := 1) (k := 1) rfl rfl), (zt_in (j := 6) (k := 78) rfl rfl), Or.inl rfl, by decide +kernel, by decide, fun h => absurd h (by decide)⟩
set_option maxRecDepth 100000 in
theorem zt_m_207 : zt_mOK (⟨"ColumnVault$Sheet", "placesUnlike", "(LColumnVault$Sheet;)I"⟩, prog_10_method_17_code, 4, some (.int), [], 10, 1, 0, 0, 0, 0) := ⟨(zt_in (j := 6) (k := 83) rfl rfl), rfl, (zt_in (j := 1) (k := 3) rfl rfl), (zt_in (j := 6) (k := 81) rfl rfl), Or.inr (zt_in (j := 6) (k := 82) rfl rfl), by decide +kernel, by decide, fun h => absurd h (by decide)⟩
set_option maxRecDepth 100000 in
theorem zt_m_208 : zt_mOK (⟨"ColumnVaultLaw", "than", "(IJJ)I"⟩, method_8_code, 5, some (.int), [], 17, 3, 0, 1, 99999, 0) := ⟨(zt_in (j := 6) (k := 87) rfl rfl), rfl, (zt_in (j := 1) (k := 0) rfl rfl), (zt_in (j := 6) (k := 86) rfl rfl), Or.inl rfl, by decide +kernel, by decide, fun h => absurd h (by decide)⟩
set_option maxRecDepth 100000 in
theorem zt_m_209 : zt_mOK (⟨"ColumnVaultLaw", "word", "(J)Ljava/lang/String;"⟩, method_6_code, 5, some (.object "java/lang/String"), [], 17, 1, 0, 1, 99999, 0) := ⟨(zt_in (j := 6) (k := 90) rfl rfl), rfl, (zt_in (j := 1) (k := 0) rfl rfl), (zt_in (j := 6) (k := 89) rfl rfl), Or.inl rfl, by decide +kernel, by decide, fun h => absurd h (by decide)⟩
set_option maxRecDepth 100000 in
theorem zt_m_210 : zt_mOK (⟨"java/lang/StringBuilder", "insert", "(IC)Ljava/lang/StringBuilder;"⟩, prog_32_method_30_code, 3, some (.object "java/lang/StringBuilder"), [], 1, 2, 0, 0, 0, 0) := ⟨(zt_in (j := 6) (k := 94) rfl rfl), rfl, (zt_in (j := 1) (k := 23) rfl rfl), (zt_in (j := 6) (k := 92) rfl rfl), Or.inr (zt_in (j := 6) (k := 93) rfl rfl), by decide +kernel, by decide, fun h => absurd h (by decide)⟩
set_option maxRecDepth 100000 in
theorem zt_m_211 : zt_mOK (⟨"java/lang/AbstractStringBuilder", "insert", "(IC)Ljava/lang/AbstractStringBuilder;"⟩, prog_17_method_51_code, 3, some (.object "java/lang/AbstractStringBuilder"), [], 20, 2, 0, 0, 99999, 0) := ⟨(zt_in (j := 6) (k := 97) rfl rfl), rfl, (zt_in (j := 1) (k := 22) rfl rfl), (zt_in (j := 6) (k := 96) rfl rfl), Or.inl rfl, by decide +kernel, by decide, fun h => absurd h (by decide)⟩
set_option maxRecDepth 100000 in
theorem zt_m_212 : zt_mOK (⟨"java/lang/String", "checkOffset", "(II)V"⟩, prog_31_method_156_code, 2, none, [], 0, 2, 0, 1, 99999, 0) := ⟨(zt_in (j := 6) (k := 100) rfl rfl), rfl, (zt_in (j := 1) (k := 24) rfl rfl), (zt_in (j := 6) (k := 99) rfl rfl), Or.inl rfl, by decide +kernel, by decide, fun h => absurd h (by decide)⟩
set_option maxRecDepth 100000 in
theorem zt_m_213 : zt_mOK (⟨"java/lang/AbstractStringBuilder", "shift", "(II)V"⟩, prog_17_method_43_code, 3, none, [], 20, 2, 0, 0, 99999, 0) := ⟨(zt_in (j := 6) (k := 104) rfl rfl), rfl, (zt_in (j := 1) (k := 22) rfl rfl), (zt_in (j := 6) (k := 103) rfl rfl), Or.inl rfl, by decide +kernel, by decide, fun h => absurd h (by decide)⟩
set_option maxRecDepth 100000 in
theorem zt_m_214 : zt_mOK (⟨"java/lang/String", "compareTo", "(Ljava/lang/String;)I"⟩, prog_31_method_71_code, 5, some (.int), [], 0, 1, 0, 0, 0, 0) := ⟨(zt_in (j := 6) (k := 109) rfl rfl), rfl, (zt_in (j := 1) (k := 24) rfl rfl), (zt_in (j := 6) (k := 107) rfl rfl), Or.inr (zt_in (j := 6) (k := 108) rfl rfl), by decide +kernel, by decide, fun h => absurd h (by decide)⟩
set_option maxRecDepth 100000 in
theorem zt_m_215 : zt_mOK (⟨"java/lang/StringLatin1", "compareTo", "([B[B)I"⟩, prog_33_method_14_code, 4, some (.int), [], 24, 2, 0, 1, 99999, 0) := ⟨(zt_in (j := 6) (k := 112) rfl rfl), rfl, (zt_in (j := 1) (k := 28) rfl rfl), (zt_in (j := 6) (k := 111) rfl rfl), Or.inl rfl, by decide +kernel, by decide, fun h => absurd h (by decide)⟩
set_option maxRecDepth 100000 in
theorem zt_m_216 : zt_mOK (⟨"java/lang/StringLatin1", "compareTo", "([B[BII)I"⟩, prog_33_method_15_code, 6, some (.int), [], 24, 4, 0, 1, 99999, 0) := ⟨(zt_in (j := 6) (k := 115) rfl rfl), rfl, (zt_in (j := 1) (k := 28) rfl rfl), (zt_in (j := 6) (k := 114) rfl rfl), Or.inl rfl, by decide +kernel, by decide, fun h => absurd h (by decide)⟩
set_option maxRecDepth 100000 in
theorem zt_m_217 : zt_mOK (⟨"jdk/internal/util/ArraysSupport", "mismatch", "([B[BI)I"⟩, prog_43_method_13_code, 4, some (.int), [], 22, 3, 0, 1, 99999, 0) := ⟨(zt_in (j := 6) (k := 119) rfl rfl), rfl, (zt_in (j := 1) (k := 26) rfl rfl), (zt_in (j := 6) (k := 118) rfl rfl), Or.inl rfl, by decide +kernel, by decide, fun h => absurd h (by decide)⟩
set_option maxRecDepth 100000 in
theorem zt_m_218 : zt_mOK (⟨"jdk/internal/util/ArraysSupport", "vectorizedMismatch", "(Ljava/lang/Object;JLjava/lang/Object;JII)I"⟩, prog_43_method_3_code, 19, some (.int), [], 22, 6, 0, 1, 99999, 0) := ⟨(zt_in (j := 6) (k := 126) rfl rfl), rfl, (zt_in (j := 1) (k := 26) rfl rfl), (zt_in (j := 6) (k := 125) rfl rfl), Or.inl rfl, by decide +kernel, by decide, fun h => absurd h (by decide)⟩
set_option maxRecDepth 100000 in
theorem zt_m_219 : zt_mOK (⟨"jdk/internal/misc/Unsafe", "getLongUnaligned", "(Ljava/lang/Object;J)J"⟩, prog_41_method_334_code, 4, some (.long), [], 27, 2, 0, 0, 0, 0) := ⟨(zt_in (j := 6) (k := 134) rfl rfl), rfl, (zt_in (j := 1) (k := 31) rfl rfl), (zt_in (j := 6) (k := 132) rfl rfl), Or.inr (zt_in (j := 6) (k := 133) rfl rfl), by decide +kernel, by decide, fun h => absurd h (by decide)⟩
set_option maxRecDepth 100000 in
theorem zt_m_220 : zt_mOK (⟨"jdk/internal/misc/Unsafe", "makeLong", "(II)J"⟩, prog_41_method_353_code, 2, some (.long), [], 27, 2, 0, 1, 99999, 0) := ⟨(zt_in (j := 6) (k := 148) rfl rfl), rfl, (zt_in (j := 1) (k := 31) rfl rfl), (zt_in (j := 6) (k := 147) rfl rfl), Or.inl rfl, by decide +kernel, by decide, fun h => absurd h (by decide)⟩
set_option maxRecDepth 100000 in
theorem zt_m_221 : zt_mOK (⟨"jdk/internal/misc/Unsafe", "toUnsignedLong", "(I)J"⟩, prog_41_method_370_code, 1, some (.long), [], 27, 1, 0, 1, 99999, 0) := ⟨(zt_in (j := 6) (k := 151) rfl rfl), rfl, (zt_in (j := 1) (k := 31) rfl rfl), (zt_in (j := 6) (k := 150) rfl rfl), Or.inl rfl, by decide +kernel, by decide, fun h => absurd h (by decide)⟩
set_option maxRecDepth 100000 in
theorem zt_m_222 : zt_mOK (⟨"jdk/internal/misc/Unsafe", "pickPos", "(II)I"⟩, prog_41_method_350_code, 2, some (.int), [], 27, 2, 0, 1, 99999, 0) := ⟨(zt_in (j := 6) (k := 155) rfl rfl), rfl, (zt_in (j := 1) (k := 31) rfl rfl), (zt_in (j := 6) (k := 154) rfl rfl), Or.inl rfl, by decide +kernel, by decide, fun h => absurd h (by decide)⟩
set_option maxRecDepth 100000 in
theorem zt_m_223 : zt_mOK (⟨"jdk/internal/misc/Unsafe", "makeLong", "(SSSS)J"⟩, prog_41_method_352_code, 4, some (.long), [], 27, 4, 0, 1, 99999, 0) := ⟨(zt_in (j := 6) (k := 166) rfl rfl), rfl, (zt_in (j := 1) (k := 31) rfl rfl), (zt_in (j := 6) (k := 165) rfl rfl), Or.inl rfl, by decide +kernel, by decide, fun h => absurd h (by decide)⟩
set_option maxRecDepth 100000 in
theorem zt_m_224 : zt_mOK (⟨"jdk/internal/misc/Unsafe", "toUnsignedLong", "(S)J"⟩, prog_41_method_369_code, 1, some (.long), [], 27, 1, 0, 1, 99999, 0) := ⟨(zt_in (j := 6) (k := 169) rfl rfl), rfl, (zt_in (j := 1) (k := 31) rfl rfl), (zt_in (j := 6) (k := 168) rfl rfl), Or.inl rfl, by decide +kernel, by decide, fun h => absurd h (by decide)⟩
set_option maxRecDepth 100000 in
theorem zt_m_225 : zt_mOK (⟨"jdk/internal/misc/Unsafe", "makeLong", "(BBBBBBBB)J"⟩, prog_41_method_351_code, 8, some (.long), [], 27, 8, 0, 1, 99999, 0) := ⟨(zt_in (j := 6) (k := 178) rfl rfl), rfl, (zt_in (j := 1) (k := 31) rfl rfl), (zt_in (j := 6) (k := 177) rfl rfl), Or.inl rfl, by decide +kernel, by decide, fun h => absurd h (by decide)⟩
set_option maxRecDepth 100000 in
theorem zt_m_226 : zt_mOK (⟨"jdk/internal/misc/Unsafe", "toUnsignedLong", "(B)J"⟩, prog_41_method_368_code, 1, some (.long), [], 27, 1, 0, 1, 99999, 0) := ⟨(zt_in (j := 6) (k := 181) rfl rfl), rfl, (zt_in (j := 1) (k := 31) rfl rfl), (zt_in (j := 6) (k := 180) rfl rfl), Or.inl rfl, by decide +kernel, by decide, fun h => absurd h (by decide)⟩
set_option maxRecDepth 100000 in
theorem zt_m_227 : zt_mOK (⟨"java/lang/Long", "numberOfLeadingZeros", "(J)I"⟩, prog_27_method_48_code, 3, some (.int), [], 18, 1, 0, 1, 99999, 0) := ⟨(zt_in (j := 6) (k := 187) rfl rfl), rfl, (zt_in (j := 1) (k := 20) rfl rfl), (zt_in (j := 6) (k := 186) rfl rfl), Or.inl rfl, by decide +kernel, by decide, fun h => absurd h (by decide)⟩
set_option maxRecDepth 100000 in
theorem zt_m_228 : zt_mOK (⟨"java/lang/Integer", "numberOfLeadingZeros", "(I)I"⟩, prog_26_method_47_code, 2, some (.int), [], 26, 1, 0, 1, 99999, 0) := ⟨(zt_in (j := 6) (k := 190) rfl rfl), rfl, (zt_in (j := 1) (k := 30) rfl rfl), (zt_in (j := 6) (k := 189) rfl rfl), Or.inl rfl, by decide +kernel, by decide, fun h => absurd h (by decide)⟩
set_option maxRecDepth 100000 in
theorem zt_m_229 : zt_mOK (⟨"java/lang/Long", "numberOfTrailingZeros", "(J)I"⟩, prog_27_method_49_code, 3, some (.int), [], 18, 1, 0, 1, 99999, 0) := ⟨(zt_in (j := 6) (k := 196) rfl rfl), rfl, (zt_in (j := 1) (k := 20) rfl rfl), (zt_in (j := 6) (k := 195) rfl rfl), Or.inl rfl, by decide +kernel, by decide, fun h => absurd h (by decide)⟩
set_option maxRecDepth 100000 in
theorem zt_m_230 : zt_mOK (⟨"java/lang/Integer", "numberOfTrailingZeros", "(I)I"⟩, prog_26_method_48_code, 2, some (.int), [], 26, 1, 0, 1, 99999, 0) := ⟨(zt_in (j := 6) (k := 199) rfl rfl), rfl, (zt_in (j := 1) (k := 30) rfl rfl), (zt_in (j := 6) (k := 198) rfl rfl), Or.inl rfl, by decide +kernel, by decide, fun h => absurd h (by decide)⟩
set_option maxRecDepth 100000 in
theorem zt_m_231 : zt_mOK (⟨"jdk/internal/misc/Unsafe", "getIntUnaligned", "(Ljava/lang/Object;J)I"⟩, prog_41_method_336_code, 4, some (.int), [], 27, 2, 0, 0, 0, 0) := ⟨(zt_in (j := 6) (k := 205) rfl rfl), rfl, (zt_in (j := 1) (k := 31) rfl rfl), (zt_in (j := 6) (k := 203) rfl rfl), Or.inr (zt_in (j := 6) (k := 204) rfl rfl), by decide +kernel, by decide, fun h => absurd h (by decide)⟩
set_option maxRecDepth 100000 in
theorem zt_m_232 : zt_mOK (⟨"jdk/internal/misc/Unsafe", "makeInt", "(SS)I"⟩, prog_41_method_354_code, 2, some (.int), [], 27, 2, 0, 1, 99999, 0) := ⟨(zt_in (j := 6) (k := 208) rfl rfl), rfl, (zt_in (j := 1) (k := 31) rfl rfl), (zt_in (j := 6) (k := 207) rfl rfl), Or.inl rfl, by decide +kernel, by decide, fun h => absurd h (by decide)⟩
set_option maxRecDepth 100000 in
theorem zt_m_233 : zt_mOK (⟨"jdk/internal/misc/Unsafe", "toUnsignedInt", "(S)I"⟩, prog_41_method_367_code, 1, some (.int), [], 27, 1, 0, 1, 99999, 0) := ⟨(zt_in (j := 6) (k := 211) rfl rfl), rfl, (zt_in (j := 1) (k := 31) rfl rfl), (zt_in (j := 6) (k := 210) rfl rfl), Or.inl rfl, by decide +kernel, by decide, fun h => absurd h (by decide)⟩
set_option maxRecDepth 100000 in
theorem zt_m_234 : zt_mOK (⟨"jdk/internal/misc/Unsafe", "makeInt", "(BBBB)I"⟩, prog_41_method_355_code, 4, some (.int), [], 27, 4, 0, 1, 99999, 0) := ⟨(zt_in (j := 6) (k := 215) rfl rfl), rfl, (zt_in (j := 1) (k := 31) rfl rfl), (zt_in (j := 6) (k := 214) rfl rfl), Or.inl rfl, by decide +kernel, by decide, fun h => absurd h (by decide)⟩
set_option maxRecDepth 100000 in
theorem zt_m_235 : zt_mOK (⟨"jdk/internal/misc/Unsafe", "toUnsignedInt", "(B)I"⟩, prog_41_method_366_code, 1, some (.int), [], 27, 1, 0, 1, 99999, 0) := ⟨(zt_in (j := 6) (k := 218) rfl rfl), rfl, (zt_in (j := 1) (k := 31) rfl rfl), (zt_in (j := 6) (k := 217) rfl rfl), Or.inl rfl, by decide +kernel, by decide, fun h => absurd h (by decide)⟩
set_option maxRecDepth 100000 in
theorem zt_m_236 : zt_mOK (⟨"java/lang/StringLatin1", "getChar", "([BI)C"⟩, prog_33_method_44_code, 2, some (.char), [], 24, 2, 0, 1, 99999, 0) := ⟨(zt_in (j := 6) (k := 223) rfl rfl), rfl, (zt_in (j := 1) (k := 28) rfl rfl), (zt_in (j := 6) (k := 222) rfl rfl), Or.inl rfl, by decide +kernel, by decide, fun h => absurd h (by decide)⟩
set_option maxRecDepth 100000 in
theorem zt_m_237 : zt_mOK (⟨"java/lang/StringUTF16", "compareTo", "([B[B)I"⟩, prog_34_method_29_code, 4, some (.int), [], 21, 2, 0, 1, 99999, 0) := ⟨(zt_in (j := 6) (k := 226) rfl rfl), rfl, (zt_in (j := 1) (k := 25) rfl rfl), (zt_in (j := 6) (k := 225) rfl rfl), Or.inl rfl, by decide +kernel, by decide, fun h => absurd h (by decide)⟩
set_option maxRecDepth 100000 in
theorem zt_m_238 : zt_mOK (⟨"java/lang/StringUTF16", "compareValues", "([B[BII)I"⟩, prog_34_method_31_code, 8, some (.int), [], 21, 4, 0, 1, 99999, 0) := ⟨(zt_in (j := 6) (k := 229) rfl rfl), rfl, (zt_in (j := 1) (k := 25) rfl rfl), (zt_in (j := 6) (k := 228) rfl rfl), Or.inl rfl, by decide +kernel, by decide, fun h => absurd h (by decide)⟩
set_option maxRecDepth 100000 in
theorem zt_m_239 : zt_mOK (⟨"java/lang/StringLatin1", "compareToUTF16", "([B[B)I"⟩, prog_33_method_16_code, 4, some (.int), [], 24, 2, 0, 1, 99999, 0) := ⟨(zt_in (j := 6) (k := 233) rfl rfl), rfl, (zt_in (j := 1) (k := 28) rfl rfl), (zt_in (j := 6) (k := 232) rfl rfl), Or.inl rfl, by decide +kernel, by decide, fun h => absurd h (by decide)⟩
set_option maxRecDepth 100000 in
theorem zt_m_240 : zt_mOK (⟨"java/lang/StringLatin1", "length", "([B)I"⟩, prog_33_method_5_code, 1, some (.int), [], 24, 1, 0, 1, 99999, 0) := ⟨(zt_in (j := 6) (k := 236) rfl rfl), rfl, (zt_in (j := 1) (k := 28) rfl rfl), (zt_in (j := 6) (k := 235) rfl rfl), Or.inl rfl, by decide +kernel, by decide, fun h => absurd h (by decide)⟩
set_option maxRecDepth 100000 in
theorem zt_m_241 : zt_mOK (⟨"java/lang/StringLatin1", "compareToUTF16Values", "([B[BII)I"⟩, prog_33_method_18_code, 8, some (.int), [], 24, 4, 0, 1, 99999, 0) := ⟨(zt_in (j := 7) (k := 0) rfl rfl), rfl, (zt_in (j := 1) (k := 28) rfl rfl), (zt_in (j := 6) (k := 239) rfl rfl), Or.inl rfl, by decide +kernel, by decide, fun h => absurd h (by decide)⟩
set_option maxRecDepth 100000 in
theorem zt_m_242 : zt_mOK (⟨"java/lang/StringUTF16", "compareToLatin1", "([B[B)I"⟩, prog_34_method_32_code, 2, some (.int), [], 21, 2, 0, 1, 99999, 0) := ⟨(zt_in (j := 7) (k := 4) rfl rfl), rfl, (zt_in (j := 1) (k := 25) rfl rfl), (zt_in (j := 7) (k := 3) rfl rfl), Or.inl rfl, by decide +kernel, by decide, fun h => absurd h (by decide)⟩
set_option maxRecDepth 100000 in
theorem zt_m_243 : zt_mOK (⟨"java/lang/Integer", "signum", "(I)I"⟩, prog_26_method_56_code, 1, some (.int), [], 26, 1, 0, 1, 99999, 0) := ⟨(zt_in (j := 7) (k := 8) rfl rfl), rfl, (zt_in (j := 1) (k := 30) rfl rfl), (zt_in (j := 7) (k := 7) rfl rfl), Or.inl rfl, by decide +kernel, by decide, fun h => absurd h (by decide)⟩
set_option maxRecDepth 100000 in
theorem zt_m_244 : zt_mOK (⟨"java/lang/Long", "compare", "(JJ)I"⟩, prog_27_method_42_code, 4, some (.int), [], 18, 2, 0, 1, 99999, 0) := ⟨(zt_in (j := 7) (k := 11) rfl rfl), rfl, (zt_in (j := 1) (k := 20) rfl rfl), (zt_in (j := 7) (k := 10) rfl rfl), Or.inl rfl, by decide +kernel, by decide, fun h => absurd h (by decide)⟩
set_option maxRecDepth 100000 in
theorem zt_m_245 : zt_mOK (⟨"ColumnVault", "errors", "(I)I"⟩, prog_1_method_38_code, 2, some (.int), [], 12, 1, 0, 0, 0, 0) := ⟨(zt_in (j := 7) (k := 15) rfl rfl), rfl, (zt_in (j := 1) (k := 1) rfl rfl), (zt_in (j := 7) (k := 13) rfl rfl), Or.inr (zt_in (j := 7) (k := 14) rfl rfl), by decide +kernel, by decide, fun h => absurd h (by decide)⟩
set_option maxRecDepth 100000 in
theorem zt_m_246 : zt_mOK (⟨"ColumnVault$Checks", "failuresOf", "(LColumnVault$Sheet;)I"⟩, prog_2_method_2_code, 5, some (.int), [], 2, 1, 0, 0, 0, 0) := ⟨(zt_in (j := 7) (k := 19) rfl rfl), rfl, (zt_in (j := 1) (k := 8) rfl rfl), (zt_in (j := 7) (k := 17) rfl rfl), Or.inr (zt_in (j := 7) (k := 18) rfl rfl), by decide +kernel, by decide, fun h => absurd h (by decide)⟩
set_option maxRecDepth 100000 in
theorem zt_m_247 : zt_mOK (⟨"ColumnVault$Checks", "isInBothOrders", "(LColumnVault$Sheet;II)Z"⟩, prog_2_method_3_code, 5, some (.boolean), [], 2, 3, 0, 0, 0, 0) := ⟨(zt_in (j := 7) (k := 23) rfl rfl), rfl, (zt_in (j := 1) (k := 8) rfl rfl), (zt_in (j := 7) (k := 22) rfl rfl), Or.inr (zt_in (j := 0) (k := 31) rfl rfl), by decide +kernel, by decide, fun h => absurd h (by decide)⟩
