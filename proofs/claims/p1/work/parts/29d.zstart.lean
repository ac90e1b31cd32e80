set_option maxRecDepth 100000 in
set_option maxHeartbeats 4000000 in
theorem zz_H2 {s : State} {args : Array Value} (hts : ∀ w ∈ lw_tbl, w.before args s = true) (hn : narrow_1.before args s = true) (b : Nat) : ∃ (e : Nat → Nat) (nf : Bool), zx_H2 s.heap.size (zz_a s.heap.size b e) nf s s.heap := by
  have hA : ∀ a : Nat, a < s.heap.size → ¬ (fun x => s.heap.size ≤ x) a := fun a h => Nat.not_le.mpr h
  obtain ⟨adI, hI, hIe⟩ := vb_Cof (args := args) (s := s) (A := fun x => s.heap.size ≤ x) (st := (Term.static "java/lang/Integer$IntegerCache" "cache" "[Ljava/lang/Integer;")) rfl (va_eqt (zn_276 hn)) (zn_277 hn) hA
  obtain ⟨adL, hL, hLe⟩ := zz_Lof (args := args) (s := s) (A := fun x => s.heap.size ≤ x) (st := (Term.static "java/lang/Long$LongCache" "cache" "[Ljava/lang/Long;")) rfl (va_eqt (zn_279 hn)) (zn_280 hn) hA
  obtain ⟨tI, htI, hTI⟩ := va_Tof (f := fun j => .ref (adI j)) (A := fun x => s.heap.size ≤ x) (N := 256) (by decide) (zn_275 hn) (va_eqt (zn_276 hn)) hIe hA
  obtain ⟨tL, htL, hTL⟩ := va_Tof (f := fun j => .ref (adL j)) (A := fun x => s.heap.size ≤ x) (N := 256) (by decide) (zn_278 hn) (va_eqt (zn_279 hn)) hLe hA
  obtain ⟨t0, ht0, hT0⟩ := va_Tof (f := fun _ => .null) (A := fun x => s.heap.size ≤ x) (N := 0) (by decide) (zn_273 hn) (va_eqt (zn_274 hn)) (fun j hj => absurd hj (Nat.not_lt_zero j)) hA
  obtain ⟨tT, _, _, _, htT, -⟩ := Cond.exactly_spec (args := args) (first := s) (o := none) (s := s) (idx := []) (zn_281 hn)
  obtain ⟨tF, _, _, _, htF, -⟩ := Cond.exactly_spec (args := args) (first := s) (o := none) (s := s) (idx := []) (zn_282 hn)
  obtain ⟨q0, v0, hS0⟩ := zz_str (A := fun x => s.heap.size ≤ x) (own := "ColumnVault") (k := 231) (tx := "#0 < 5 & !(#1 = b | #1 missing)") (n := 31) (byt := [35, 48, 32, 60, 32, 53, 32, 38, 32, 33, 40, 35, 49, 32, 61, 32, 98, 32, 124, 32, 35, 49, 32, 109, 105, 115, 115, 105, 110, 103, 41]) (by decide) (hts _ (zt_ch_in (j := 4) (List.mem_of_getElem? (i := 150) rfl))) (zn_0 hn) (zn_1 hn) (zn_2 hn) (zn_3 hn) (fun j hj => match j, hj with
    | 0, _ => (zn_4 hn)
    | 1, _ => (zn_5 hn)
    | 2, _ => (zn_6 hn)
    | 3, _ => (zn_7 hn)
    | 4, _ => (zn_8 hn)
    | 5, _ => (zn_9 hn)
    | 6, _ => (zn_10 hn)
    | 7, _ => (zn_11 hn)
    | 8, _ => (zn_12 hn)
    | 9, _ => (zn_13 hn)
    | 10, _ => (zn_14 hn)
    | 11, _ => (zn_15 hn)
    | 12, _ => (zn_16 hn)
    | 13, _ => (zn_17 hn)
    | 14, _ => (zn_18 hn)
    | 15, _ => (zn_19 hn)
    | 16, _ => (zn_20 hn)
    | 17, _ => (zn_21 hn)
    | 18, _ => (zn_22 hn)
    | 19, _ => (zn_23 hn)
    | 20, _ => (zn_24 hn)
    | 21, _ => (zn_25 hn)
    | 22, _ => (zn_26 hn)
    | 23, _ => (zn_27 hn)
    | 24, _ => (zn_28 hn)
    | 25, _ => (zn_29 hn)
    | 26, _ => (zn_30 hn)
    | 27, _ => (zn_31 hn)
    | 28, _ => (zn_32 hn)
    | 29, _ => (zn_33 hn)
    | 30, _ => (zn_34 hn)
    | j + 31, hj => absurd hj (Nat.not_lt.mpr (Nat.le_add_left 31 j))) hA
  obtain ⟨q1, v1, hS1⟩ := zz_str (A := fun x => s.heap.size ≤ x) (own := "ColumnVault") (k := 236) (tx := "#0 to -3 3 | #0 in 7 9 11 & !#0 = 9") (n := 35) (byt := [35, 48, 32, 116, 111, 32, 45, 51, 32, 51, 32, 124, 32, 35, 48, 32, 105, 110, 32, 55, 32, 57, 32, 49, 49, 32, 38, 32, 33, 35, 48, 32, 61, 32, 57]) (by decide) (hts _ (zt_ch_in (j := 4) (List.mem_of_getElem? (i := 203) rfl))) (zn_35 hn) (zn_36 hn) (zn_37 hn) (zn_38 hn) (fun j hj => match j, hj with
    | 0, _ => (zn_39 hn)
    | 1, _ => (zn_40 hn)
    | 2, _ => (zn_41 hn)
    | 3, _ => (zn_42 hn)
    | 4, _ => (zn_43 hn)
    | 5, _ => (zn_44 hn)
    | 6, _ => (zn_45 hn)
    | 7, _ => (zn_46 hn)
    | 8, _ => (zn_47 hn)
    | 9, _ => (zn_48 hn)
    | 10, _ => (zn_49 hn)
    | 11, _ => (zn_50 hn)
    | 12, _ => (zn_51 hn)
    | 13, _ => (zn_52 hn)
    | 14, _ => (zn_53 hn)
    | 15, _ => (zn_54 hn)
    | 16, _ => (zn_55 hn)
    | 17, _ => (zn_56 hn)
    | 18, _ => (zn_57 hn)
    | 19, _ => (zn_58 hn)
    | 20, _ => (zn_59 hn)
    | 21, _ => (zn_60 hn)
    | 22, _ => (zn_61 hn)
    | 23, _ => (zn_62 hn)
    | 24, _ => (zn_63 hn)
    | 25, _ => (zn_64 hn)
    | 26, _ => (zn_65 hn)
    | 27, _ => (zn_66 hn)
    | 28, _ => (zn_67 hn)
    | 29, _ => (zn_68 hn)
    | 30, _ => (zn_69 hn)
    | 31, _ => (zn_70 hn)
    | 32, _ => (zn_71 hn)
    | 33, _ => (zn_72 hn)
    | 34, _ => (zn_73 hn)
    | j + 35, hj => absurd hj (Nat.not_lt.mpr (Nat.le_add_left 35 j))) hA
  obtain ⟨q2, v2, hS2⟩ := zz_str (A := fun x => s.heap.size ≤ x) (own := "ColumnVault") (k := 238) (tx := "!(#0 missing) & (#0 > 2 | #0 < -2) & #0 to -9 9") (n := 47) (byt := [33, 40, 35, 48, 32, 109, 105, 115, 115, 105, 110, 103, 41, 32, 38, 32, 40, 35, 48, 32, 62, 32, 50, 32, 124, 32, 35, 48, 32, 60, 32, 45, 50, 41, 32, 38, 32, 35, 48, 32, 116, 111, 32, 45, 57, 32, 57]) (by decide) (hts _ (zt_ch_in (j := 4) (List.mem_of_getElem? (i := 204) rfl))) (zn_74 hn) (zn_75 hn) (zn_76 hn) (zn_77 hn) (fun j hj => match j, hj with
    | 0, _ => (zn_78 hn)
    | 1, _ => (zn_79 hn)
    | 2, _ => (zn_80 hn)
    | 3, _ => (zn_81 hn)
    | 4, _ => (zn_82 hn)
    | 5, _ => (zn_83 hn)
    | 6, _ => (zn_84 hn)
    | 7, _ => (zn_85 hn)
    | 8, _ => (zn_86 hn)
    | 9, _ => (zn_87 hn)
    | 10, _ => (zn_88 hn)
    | 11, _ => (zn_89 hn)
    | 12, _ => (zn_90 hn)
    | 13, _ => (zn_91 hn)
    | 14, _ => (zn_92 hn)
    | 15, _ => (zn_93 hn)
    | 16, _ => (zn_94 hn)
    | 17, _ => (zn_95 hn)
    | 18, _ => (zn_96 hn)
    | 19, _ => (zn_97 hn)
    | 20, _ => (zn_98 hn)
    | 21, _ => (zn_99 hn)
    | 22, _ => (zn_100 hn)
    | 23, _ => (zn_101 hn)
    | 24, _ => (zn_102 hn)
    | 25, _ => (zn_103 hn)
    | 26, _ => (zn_104 hn)
    | 27, _ => (zn_105 hn)
    | 28, _ => (zn_106 hn)
    | 29, _ => (zn_107 hn)
    | 30, _ => (zn_108 hn)
    | 31, _ => (zn_109 hn)
    | 32, _ => (zn_110 hn)
    | 33, _ => (zn_111 hn)
    | 34, _ => (zn_112 hn)
    | 35, _ => (zn_113 hn)
    | 36, _ => (zn_114 hn)
    | 37, _ => (zn_115 hn)
    | 38, _ => (zn_116 hn)
    | 39, _ => (zn_117 hn)
    | 40, _ => (zn_118 hn)
    | 41, _ => (zn_119 hn)
    | 42, _ => (zn_120 hn)
    | 43, _ => (zn_121 hn)
    | 44, _ => (zn_122 hn)
    | 45, _ => (zn_123 hn)
    | 46, _ => (zn_124 hn)
    | j + 47, hj => absurd hj (Nat.not_lt.mpr (Nat.le_add_left 47 j))) hA
  obtain ⟨q3, v3, hS3⟩ := zz_str (A := fun x => s.heap.size ≤ x) (own := "ColumnVaultModel") (k := 280) (tx := "to") (n := 2) (byt := [116, 111]) (by decide) (hts _ (zt_ch_in (j := 8) (List.mem_of_getElem? (i := 140) rfl))) (zn_125 hn) (zn_126 hn) (zn_127 hn) (zn_128 hn) (fun j hj => match j, hj with
    | 0, _ => (zn_129 hn)
    | 1, _ => (zn_130 hn)
    | j + 2, hj => absurd hj (Nat.not_lt.mpr (Nat.le_add_left 2 j))) hA
  obtain ⟨q4, v4, hS4⟩ := zz_str (A := fun x => s.heap.size ≤ x) (own := "ColumnVaultModel") (k := 286) (tx := "in") (n := 2) (byt := [105, 110]) (by decide) (hts _ (zt_ch_in (j := 8) (List.mem_of_getElem? (i := 150) rfl))) (zn_131 hn) (zn_132 hn) (zn_133 hn) (zn_134 hn) (fun j hj => match j, hj with
    | 0, _ => (zn_135 hn)
    | 1, _ => (zn_136 hn)
    | j + 2, hj => absurd hj (Nat.not_lt.mpr (Nat.le_add_left 2 j))) hA
  obtain ⟨q5, v5, hS5⟩ := zz_str (A := fun x => s.heap.size ≤ x) (own := "ColumnVaultModel") (k := 287) (tx := "missing") (n := 7) (byt := [109, 105, 115, 115, 105, 110, 103]) (by decide) (hts _ (zt_ch_in (j := 8) (List.mem_of_getElem? (i := 151) rfl))) (zn_137 hn) (zn_138 hn) (zn_139 hn) (zn_140 hn) (fun j hj => match j, hj with
    | 0, _ => (zn_141 hn)
    | 1, _ => (zn_142 hn)
    | 2, _ => (zn_143 hn)
    | 3, _ => (zn_144 hn)
    | 4, _ => (zn_145 hn)
    | 5, _ => (zn_146 hn)
    | 6, _ => (zn_147 hn)
    | j + 7, hj => absurd hj (Nat.not_lt.mpr (Nat.le_add_left 7 j))) hA
  obtain ⟨q6, v6, hS6⟩ := zz_str (A := fun x => s.heap.size ≤ x) (own := "ColumnVaultModel") (k := 335) (tx := "#0 < 5 & !(#1 = b | #1 missing)") (n := 31) (byt := [35, 48, 32, 60, 32, 53, 32, 38, 32, 33, 40, 35, 49, 32, 61, 32, 98, 32, 124, 32, 35, 49, 32, 109, 105, 115, 115, 105, 110, 103, 41]) (by decide) (hts _ (zt_ch_in (j := 9) (List.mem_of_getElem? (i := 21) rfl))) (zn_148 hn) (zn_149 hn) (zn_150 hn) (zn_151 hn) (fun j hj => match j, hj with
    | 0, _ => (zn_152 hn)
    | 1, _ => (zn_153 hn)
    | 2, _ => (zn_154 hn)
    | 3, _ => (zn_155 hn)
    | 4, _ => (zn_156 hn)
    | 5, _ => (zn_157 hn)
    | 6, _ => (zn_158 hn)
    | 7, _ => (zn_159 hn)
    | 8, _ => (zn_160 hn)
    | 9, _ => (zn_161 hn)
    | 10, _ => (zn_162 hn)
    | 11, _ => (zn_163 hn)
    | 12, _ => (zn_164 hn)
    | 13, _ => (zn_165 hn)
    | 14, _ => (zn_166 hn)
    | 15, _ => (zn_167 hn)
    | 16, _ => (zn_168 hn)
    | 17, _ => (zn_169 hn)
    | 18, _ => (zn_170 hn)
    | 19, _ => (zn_171 hn)
    | 20, _ => (zn_172 hn)
    | 21, _ => (zn_173 hn)
    | 22, _ => (zn_174 hn)
    | 23, _ => (zn_175 hn)
    | 24, _ => (zn_176 hn)
    | 25, _ => (zn_177 hn)
    | 26, _ => (zn_178 hn)
    | 27, _ => (zn_179 hn)
    | 28, _ => (zn_180 hn)
    | 29, _ => (zn_181 hn)
    | 30, _ => (zn_182 hn)
    | j + 31, hj => absurd hj (Nat.not_lt.mpr (Nat.le_add_left 31 j))) hA
  obtain ⟨q7, v7, hS7⟩ := zz_str (A := fun x => s.heap.size ≤ x) (own := "ColumnVaultModel") (k := 337) (tx := "#0 to -3 3 | #0 in 7 9 11 & !#0 = 9") (n := 35) (byt := [35, 48, 32, 116, 111, 32, 45, 51, 32, 51, 32, 124, 32, 35, 48, 32, 105, 110, 32, 55, 32, 57, 32, 49, 49, 32, 38, 32, 33, 35, 48, 32, 61, 32, 57]) (by decide) (hts _ (zt_ch_in (j := 9) (List.mem_of_getElem? (i := 22) rfl))) (zn_183 hn) (zn_184 hn) (zn_185 hn) (zn_186 hn) (fun j hj => match j, hj with
    | 0, _ => (zn_187 hn)
    | 1, _ => (zn_188 hn)
    | 2, _ => (zn_189 hn)
    | 3, _ => (zn_190 hn)
    | 4, _ => (zn_191 hn)
    | 5, _ => (zn_192 hn)
    | 6, _ => (zn_193 hn)
    | 7, _ => (zn_194 hn)
    | 8, _ => (zn_195 hn)
    | 9, _ => (zn_196 hn)
    | 10, _ => (zn_197 hn)
    | 11, _ => (zn_198 hn)
    | 12, _ => (zn_199 hn)
    | 13, _ => (zn_200 hn)
    | 14, _ => (zn_201 hn)
    | 15, _ => (zn_202 hn)
    | 16, _ => (zn_203 hn)
    | 17, _ => (zn_204 hn)
    | 18, _ => (zn_205 hn)
    | 19, _ => (zn_206 hn)
    | 20, _ => (zn_207 hn)
    | 21, _ => (zn_208 hn)
    | 22, _ => (zn_209 hn)
    | 23, _ => (zn_210 hn)
    | 24, _ => (zn_211 hn)
    | 25, _ => (zn_212 hn)
    | 26, _ => (zn_213 hn)
    | 27, _ => (zn_214 hn)
    | 28, _ => (zn_215 hn)
    | 29, _ => (zn_216 hn)
    | 30, _ => (zn_217 hn)
    | 31, _ => (zn_218 hn)
    | 32, _ => (zn_219 hn)
    | 33, _ => (zn_220 hn)
    | 34, _ => (zn_221 hn)
    | j + 35, hj => absurd hj (Nat.not_lt.mpr (Nat.le_add_left 35 j))) hA
  obtain ⟨q8, v8, hS8⟩ := zz_str (A := fun x => s.heap.size ≤ x) (own := "ColumnVaultModel") (k := 339) (tx := "!(#0 missing) & (#0 > 2 | #0 < -2) & #0 to -9 9") (n := 47) (byt := [33, 40, 35, 48, 32, 109, 105, 115, 115, 105, 110, 103, 41, 32, 38, 32, 40, 35, 48, 32, 62, 32, 50, 32, 124, 32, 35, 48, 32, 60, 32, 45, 50, 41, 32, 38, 32, 35, 48, 32, 116, 111, 32, 45, 57, 32, 57]) (by decide) (hts _ (zt_ch_in (j := 9) (List.mem_of_getElem? (i := 23) rfl))) (zn_222 hn) (zn_223 hn) (zn_224 hn) (zn_225 hn) (fun j hj => match j, hj with
    | 0, _ => (zn_226 hn)
    | 1, _ => (zn_227 hn)
    | 2, _ => (zn_228 hn)
    | 3, _ => (zn_229 hn)
    | 4, _ => (zn_230 hn)
    | 5, _ => (zn_231 hn)
    | 6, _ => (zn_232 hn)
    | 7, _ => (zn_233 hn)
    | 8, _ => (zn_234 hn)
    | 9, _ => (zn_235 hn)
    | 10, _ => (zn_236 hn)
    | 11, _ => (zn_237 hn)
    | 12, _ => (zn_238 hn)
    | 13, _ => (zn_239 hn)
    | 14, _ => (zn_240 hn)
    | 15, _ => (zn_241 hn)
    | 16, _ => (zn_242 hn)
    | 17, _ => (zn_243 hn)
    | 18, _ => (zn_244 hn)
    | 19, _ => (zn_245 hn)
    | 20, _ => (zn_246 hn)
    | 21, _ => (zn_247 hn)
    | 22, _ => (zn_248 hn)
    | 23, _ => (zn_249 hn)
    | 24, _ => (zn_250 hn)
    | 25, _ => (zn_251 hn)
    | 26, _ => (zn_252 hn)
    | 27, _ => (zn_253 hn)
    | 28, _ => (zn_254 hn)
    | 29, _ => (zn_255 hn)
    | 30, _ => (zn_256 hn)
    | 31, _ => (zn_257 hn)
    | 32, _ => (zn_258 hn)
    | 33, _ => (zn_259 hn)
    | 34, _ => (zn_260 hn)
    | 35, _ => (zn_261 hn)
    | 36, _ => (zn_262 hn)
    | 37, _ => (zn_263 hn)
    | 38, _ => (zn_264 hn)
    | 39, _ => (zn_265 hn)
    | 40, _ => (zn_266 hn)
    | 41, _ => (zn_267 hn)
    | 42, _ => (zn_268 hn)
    | 43, _ => (zn_269 hn)
    | 44, _ => (zn_270 hn)
    | 45, _ => (zn_271 hn)
    | 46, _ => (zn_272 hn)
    | j + 47, hj => absurd hj (Nat.not_lt.mpr (Nat.le_add_left 47 j))) hA
  have hfm : ∃ (nf : Bool) (tf : Nat), va_Z "jdk/internal/util/Preconditions" "SIOOBE_FORMATTER" "Ljava/util/function/BiFunction;" (if nf then .null else .ref tf) (fun x => s.heap.size ≤ x) s s.heap := by
    rcases va_Zqof (A := fun x => s.heap.size ≤ x) (hts _ (zt_ch_in (j := 4) (List.mem_of_getElem? (i := 180) rfl))) (hts _ (zt_ch_in (j := 1) (List.mem_of_getElem? (i := 15) rfl))) (zn_285 hn) hA with h | ⟨t, h⟩
    · exact ⟨true, 0, h⟩
    · exact ⟨false, t, h⟩
  obtain ⟨nf, tf, hfm⟩ := hfm
  let q : Nat → Nat := fun i => [q0, q1, q2, q3, q4, q5, q6, q7, q8].getD i 0
  let v : Nat → Nat := fun i => [v0, v1, v2, v3, v4, v5, v6, v7, v8].getD i 0
  refine ⟨zz_e t0 tT tF tI tL tf adI adL q v, nf, ⟨?_, ?_, ?_, ?_, ?_⟩, vx_Zqof (hts _ (zt_ch_in (j := 2) (List.mem_of_getElem? (i := 35) rfl))) (hts _ (zt_ch_in (j := 1) (List.mem_of_getElem? (i := 20) rfl))) (zn_286 hn) hA, vx_Zqof (hts _ (zt_ch_in (j := 2) (List.mem_of_getElem? (i := 37) rfl))) (hts _ (zt_ch_in (j := 1) (List.mem_of_getElem? (i := 20) rfl))) (zn_287 hn) hA⟩
  · intro j x hj
    unfold zt_ext at hj
    by_cases h : j = 0
    · rw [if_pos h] at hj
      subst h
      cases hj
      exact (show va_T _ (zz_a _ _ _ (zx_lim + 1 + 0)) 0 _ _ s s.heap by rw [zz_a3]; exact hT0)
    rw [if_neg h] at hj
    by_cases h : j = 1 ∨ j = 2
    · rw [if_pos h] at hj
      cases hj
      rcases h with rfl | rfl
      · exact ⟨by rw [zz_a3]; exact va_Oof (zn_281 hn) htT hA, Or.inl rfl⟩
      · exact ⟨by rw [zz_a3]; exact va_Oof (zn_282 hn) htF hA, Or.inl rfl⟩
    rw [if_neg h] at hj
    by_cases h : j = 3
    · rw [if_pos h] at hj
      subst h; cases hj
      have hf : (fun i => zx_v (zz_a s.heap.size b (zz_e t0 tT tF tI tL tf adI adL q v)) (zx_rf (some (zx_lim + 1 + (10 + i))))) = fun i => Value.ref (zz_e t0 tT tF tI tL tf adI adL q v (10 + i)) := by
        funext i
        show Value.ref (zz_a _ _ _ (zx_lim + 1 + (10 + i))) = _
        rw [zz_a3]
      show va_T _ (zz_a _ _ _ (zx_lim + 1 + 3)) 256 (fun i => zx_v _ (zx_rf (some (zx_lim + 1 + (10 + i))))) _ s s.heap
      rw [hf, zz_a3]
      refine zz_T ?_ hTI
      intro i hi
      unfold zz_e
      rw [if_neg (by omega), if_neg (by omega), if_neg (by omega), if_neg (by omega), if_neg (by omega), if_neg (by omega), if_pos (by omega), show 10 + i - 10 = i by omega]
    rw [if_neg h] at hj
    by_cases h : j = 4
    · rw [if_pos h] at hj
      subst h; cases hj
      have hf : (fun i => zx_v (zz_a s.heap.size b (zz_e t0 tT tF tI tL tf adI adL q v)) (zx_rf (some (zx_lim + 1 + (300 + i))))) = fun i => Value.ref (zz_e t0 tT tF tI tL tf adI adL q v (300 + i)) := by
        funext i
        show Value.ref (zz_a _ _ _ (zx_lim + 1 + (300 + i))) = _
        rw [zz_a3]
      show va_T _ (zz_a _ _ _ (zx_lim + 1 + 4)) 256 (fun i => zx_v _ (zx_rf (some (zx_lim + 1 + (300 + i))))) _ s s.heap
      rw [hf, zz_a3]
      refine zz_T ?_ hTL
      intro i hi
      unfold zz_e
      rw [if_neg (by omega), if_neg (by omega), if_neg (by omega), if_neg (by omega), if_neg (by omega), if_neg (by omega), if_neg (by omega), if_pos (by omega), show 300 + i - 300 = i by omega]
    rw [if_neg h] at hj
    by_cases h : 10 ≤ j ∧ j < 266
    · rw [if_pos h] at hj
      cases hj
      have he : zz_a s.heap.size b (zz_e t0 tT tF tI tL tf adI adL q v) (zx_lim + 1 + j) = adI (j - 10) := by
        rw [zz_a3]
        unfold zz_e
        rw [if_neg (by omega), if_neg (by omega), if_neg (by omega), if_neg (by omega), if_neg (by omega), if_neg (by omega), if_pos h]
      refine ⟨by rw [he]; exact hI.1 _ (by omega), Or.inr ⟨_, rfl, rfl, ?_⟩⟩
      intro i x hi hx
      match i, hi with
      | 0, hi => cases hi; exact ⟨by decide, by rw [he]; exact hI.2 _ (by omega)⟩
      | i + 1, hi => cases hi
    rw [if_neg h] at hj
    by_cases h : 300 ≤ j ∧ j < 556
    · rw [if_pos h] at hj
      cases hj
      have he : zz_a s.heap.size b (zz_e t0 tT tF tI tL tf adI adL q v) (zx_lim + 1 + j) = adL (j - 300) := by
        rw [zz_a3]
        unfold zz_e
        rw [if_neg (by omega), if_neg (by omega), if_neg (by omega), if_neg (by omega), if_neg (by omega), if_neg (by omega), if_neg (by omega), if_pos h]
      refine ⟨by rw [he]; exact (hL _ (by omega)).1, Or.inr ⟨_, rfl, rfl, ?_⟩⟩
      intro i x hi hx
      match i, hi with
      | 0, hi =>
        cases hi
        refine ⟨by decide, ?_⟩
        rw [he]
        have h8 := (hL (j - 300) (by omega)).2
        rw [zz_l8 (j - 300) (by omega)] at h8
        exact h8
      | i + 1, hi => cases hi
    rw [if_neg h] at hj
    by_cases h : j = 600
    · rw [if_pos h] at hj
      subst h
      cases hj
      exact zz_xS (q := q0) (v := v0) (by rw [zz_a3]; rfl) (by rw [zz_a3]; rfl) hS0.2.1 hS0.2.2.1 hS0.2.2.2.1
    rw [if_neg h] at hj
    by_cases h : j = 601
    · rw [if_pos h] at hj
      subst h
      cases hj
      exact (show va_T _ (zz_a _ _ _ (zx_lim + 1 + 601)) 31 _ _ s s.heap by rw [zz_a3]; exact hS0.2.2.2.2)
    rw [if_neg h] at hj
    by_cases h : j = 602
    · rw [if_pos h] at hj
      subst h
      cases hj
      exact zz_xS (q := q1) (v := v1) (by rw [zz_a3]; rfl) (by rw [zz_a3]; rfl) hS1.2.1 hS1.2.2.1 hS1.2.2.2.1
    rw [if_neg h] at hj
    by_cases h : j = 603
    · rw [if_pos h] at hj
      subst h
      cases hj
      exact (show va_T _ (zz_a _ _ _ (zx_lim + 1 + 603)) 35 _ _ s s.heap by rw [zz_a3]; exact hS1.2.2.2.2)
    rw [if_neg h] at hj
    by_cases h : j = 604
    · rw [if_pos h] at hj
      subst h
      cases hj
      exact zz_xS (q := q2) (v := v2) (by rw [zz_a3]; rfl) (by rw [zz_a3]; rfl) hS2.2.1 hS2.2.2.1 hS2.2.2.2.1
    rw [if_neg h] at hj
    by_cases h : j = 605
    · rw [if_pos h] at hj
      subst h
      cases hj
      exact (show va_T _ (zz_a _ _ _ (zx_lim + 1 + 605)) 47 _ _ s s.heap by rw [zz_a3]; exact hS2.2.2.2.2)
    rw [if_neg h] at hj
    by_cases h : j = 606
    · rw [if_pos h] at hj
      subst h
      cases hj
      exact zz_xS (q := q3) (v := v3) (by rw [zz_a3]; rfl) (by rw [zz_a3]; rfl) hS3.2.1 hS3.2.2.1 hS3.2.2.2.1
    rw [if_neg h] at hj
    by_cases h : j = 607
    · rw [if_pos h] at hj
      subst h
      cases hj
      exact (show va_T _ (zz_a _ _ _ (zx_lim + 1 + 607)) 2 _ _ s s.heap by rw [zz_a3]; exact hS3.2.2.2.2)
    rw [if_neg h] at hj
    by_cases h : j = 608
    · rw [if_pos h] at hj
      subst h
      cases hj
      exact zz_xS (q := q4) (v := v4) (by rw [zz_a3]; rfl) (by rw [zz_a3]; rfl) hS4.2.1 hS4.2.2.1 hS4.2.2.2.1
    rw [if_neg h] at hj
    by_cases h : j = 609
    · rw [if_pos h] at hj
      subst h
      cases hj
      exact (show va_T _ (zz_a _ _ _ (zx_lim + 1 + 609)) 2 _ _ s s.heap by rw [zz_a3]; exact hS4.2.2.2.2)
    rw [if_neg h] at hj
    by_cases h : j = 610
    · rw [if_pos h] at hj
      subst h
      cases hj
      exact zz_xS (q := q5) (v := v5) (by rw [zz_a3]; rfl) (by rw [zz_a3]; rfl) hS5.2.1 hS5.2.2.1 hS5.2.2.2.1
    rw [if_neg h] at hj
    by_cases h : j = 611
    · rw [if_pos h] at hj
      subst h
      cases hj
      exact (show va_T _ (zz_a _ _ _ (zx_lim + 1 + 611)) 7 _ _ s s.heap by rw [zz_a3]; exact hS5.2.2.2.2)
    rw [if_neg h] at hj
    by_cases h : j = 612
    · rw [if_pos h] at hj
      subst h
      cases hj
      exact zz_xS (q := q6) (v := v6) (by rw [zz_a3]; rfl) (by rw [zz_a3]; rfl) hS6.2.1 hS6.2.2.1 hS6.2.2.2.1
    rw [if_neg h] at hj
    by_cases h : j = 613
    · rw [if_pos h] at hj
      subst h
      cases hj
      exact (show va_T _ (zz_a _ _ _ (zx_lim + 1 + 613)) 31 _ _ s s.heap by rw [zz_a3]; exact hS6.2.2.2.2)
    rw [if_neg h] at hj
    by_cases h : j = 614
    · rw [if_pos h] at hj
      subst h
      cases hj
      exact zz_xS (q := q7) (v := v7) (by rw [zz_a3]; rfl) (by rw [zz_a3]; rfl) hS7.2.1 hS7.2.2.1 hS7.2.2.2.1
    rw [if_neg h] at hj
    by_cases h : j = 615
    · rw [if_pos h] at hj
      subst h
      cases hj
      exact (show va_T _ (zz_a _ _ _ (zx_lim + 1 + 615)) 35 _ _ s s.heap by rw [zz_a3]; exact hS7.2.2.2.2)
    rw [if_neg h] at hj
    by_cases h : j = 616
    · rw [if_pos h] at hj
      subst h
      cases hj
      exact zz_xS (q := q8) (v := v8) (by rw [zz_a3]; rfl) (by rw [zz_a3]; rfl) hS8.2.1 hS8.2.2.1 hS8.2.2.2.1
    rw [if_neg h] at hj
    by_cases h : j = 617
    · rw [if_pos h] at hj
      subst h
      cases hj
      exact (show va_T _ (zz_a _ _ _ (zx_lim + 1 + 617)) 47 _ _ s s.heap by rw [zz_a3]; exact hS8.2.2.2.2)
    rw [if_neg h] at hj
    cases hj
  · intro x e v' he hv
    match x, he, hv with
    | 0, he, hv => cases he; cases hv; exact (show va_Z _ _ _ (.ref (zz_a _ _ _ (zx_lim + 1 + 0))) _ s s.heap by rw [zz_a3]; exact va_Zof (hts _ (zt_ch_in (j := 6) (List.mem_of_getElem? (i := 122) rfl))) (hts _ (zt_ch_in (j := 1) (List.mem_of_getElem? (i := 13) rfl))) ht0 hA)
    | 1, he, hv => cases he; cases hv; exact (show va_Z _ _ _ (.ref (zz_a _ _ _ (zx_lim + 1 + 1))) _ s s.heap by rw [zz_a3]; exact va_Zof (hts _ (zt_ch_in (j := 7) (List.mem_of_getElem? (i := 154) rfl))) (hts _ (zt_ch_in (j := 1) (List.mem_of_getElem? (i := 29) rfl))) htT hA)
    | 2, he, hv => cases he; cases hv; exact (show va_Z _ _ _ (.ref (zz_a _ _ _ (zx_lim + 1 + 2))) _ s s.heap by rw [zz_a3]; exact va_Zof (hts _ (zt_ch_in (j := 7) (List.mem_of_getElem? (i := 156) rfl))) (hts _ (zt_ch_in (j := 1) (List.mem_of_getElem? (i := 29) rfl))) htF hA)
    | 3, he, hv => cases he; cases hv; exact va_Zof (hts _ (zt_ch_in (j := 7) (List.mem_of_getElem? (i := 99) rfl))) (hts _ (zt_ch_in (j := 1) (List.mem_of_getElem? (i := 28) rfl))) (va_eqt (zn_283 hn)) hA
    | 4, he, hv => cases he; cases hv; exact (show va_Z _ _ _ (.ref (zz_a _ _ _ (zx_lim + 1 + 3))) _ s s.heap by rw [zz_a3]; exact va_Zof (hts _ (zt_ch_in (j := 7) (List.mem_of_getElem? (i := 101) rfl))) (hts _ (zt_ch_in (j := 1) (List.mem_of_getElem? (i := 28) rfl))) htI hA)
    | 5, he, hv => cases he; cases hv; exact (show va_Z _ _ _ (.ref (zz_a _ _ _ (zx_lim + 1 + 4))) _ s s.heap by rw [zz_a3]; exact va_Zof (hts _ (zt_ch_in (j := 8) (List.mem_of_getElem? (i := 169) rfl))) (hts _ (zt_ch_in (j := 1) (List.mem_of_getElem? (i := 37) rfl))) htL hA)
    | 6, he, hv => cases he; cases hv; exact va_Zof (hts _ (zt_ch_in (j := 4) (List.mem_of_getElem? (i := 164) rfl))) (hts _ (zt_ch_in (j := 1) (List.mem_of_getElem? (i := 34) rfl))) (va_eqt (zn_284 hn)) hA
    | 7, he, hv => cases he; cases hv; cases nf with
      | true => exact hfm
      | false => exact (show va_Z _ _ _ (.ref (zz_a _ _ _ (zx_lim + 1 + 5))) _ s s.heap by rw [zz_a3]; exact hfm)
    | x + 8, he, hv => cases he
  · intro e he
    simp only [zt_str, List.mem_cons, List.not_mem_nil, or_false] at he
    rcases he with rfl | rfl | rfl | rfl | rfl | rfl | rfl | rfl | rfl
    · exact (show vk_R _ _ _ (zz_a _ _ _ (zx_lim + 1 + 600)) s by rw [zz_a3]; exact hS0.1)
    · exact (show vk_R _ _ _ (zz_a _ _ _ (zx_lim + 1 + 602)) s by rw [zz_a3]; exact hS1.1)
    · exact (show vk_R _ _ _ (zz_a _ _ _ (zx_lim + 1 + 604)) s by rw [zz_a3]; exact hS2.1)
    · exact (show vk_R _ _ _ (zz_a _ _ _ (zx_lim + 1 + 606)) s by rw [zz_a3]; exact hS3.1)
    · exact (show vk_R _ _ _ (zz_a _ _ _ (zx_lim + 1 + 608)) s by rw [zz_a3]; exact hS4.1)
    · exact (show vk_R _ _ _ (zz_a _ _ _ (zx_lim + 1 + 610)) s by rw [zz_a3]; exact hS5.1)
    · exact (show vk_R _ _ _ (zz_a _ _ _ (zx_lim + 1 + 612)) s by rw [zz_a3]; exact hS6.1)
    · exact (show vk_R _ _ _ (zz_a _ _ _ (zx_lim + 1 + 614)) s by rw [zz_a3]; exact hS7.1)
    · exact (show vk_R _ _ _ (zz_a _ _ _ (zx_lim + 1 + 616)) s by rw [zz_a3]; exact hS8.1)
  · intro j x hj
    rw [zz_a3]
    unfold zt_ext at hj
    by_cases h : j = 0
    · rw [if_pos h] at hj
      subst h
      exact zz_lt hT0.out
    rw [if_neg h] at hj
    by_cases h : j = 1 ∨ j = 2
    · rw [if_pos h] at hj
      rcases h with rfl | rfl
      · exact zz_ltO (va_Oof (zn_281 hn) htT hA)
      · exact zz_ltO (va_Oof (zn_282 hn) htF hA)
    rw [if_neg h] at hj
    by_cases h : j = 3
    · rw [if_pos h] at hj
      subst h
      exact zz_lt hTI.out
    rw [if_neg h] at hj
    by_cases h : j = 4
    · rw [if_pos h] at hj
      subst h
      exact zz_lt hTL.out
    rw [if_neg h] at hj
    by_cases h : 10 ≤ j ∧ j < 266
    · rw [if_pos h] at hj
      unfold zz_e
      rw [if_neg (by omega), if_neg (by omega), if_neg (by omega), if_neg (by omega), if_neg (by omega), if_neg (by omega), if_pos h]
      exact zz_ltO (hI.1 _ (by omega))
    rw [if_neg h] at hj
    by_cases h : 300 ≤ j ∧ j < 556
    · rw [if_pos h] at hj
      unfold zz_e
      rw [if_neg (by omega), if_neg (by omega), if_neg (by omega), if_neg (by omega), if_neg (by omega), if_neg (by omega), if_neg (by omega), if_pos h]
      exact zz_ltO (hL _ (by omega)).1
    rw [if_neg h] at hj
    by_cases h : j = 600
    · rw [if_pos h] at hj
      subst h
      exact zz_ltO hS0.2.1
    rw [if_neg h] at hj
    by_cases h : j = 601
    · rw [if_pos h] at hj
      subst h
      exact zz_lt hS0.2.2.2.2.out
    rw [if_neg h] at hj
    by_cases h : j = 602
    · rw [if_pos h] at hj
      subst h
      exact zz_ltO hS1.2.1
    rw [if_neg h] at hj
    by_cases h : j = 603
    · rw [if_pos h] at hj
      subst h
      exact zz_lt hS1.2.2.2.2.out
    rw [if_neg h] at hj
    by_cases h : j = 604
    · rw [if_pos h] at hj
      subst h
      exact zz_ltO hS2.2.1
    rw [if_neg h] at hj
    by_cases h : j = 605
    · rw [if_pos h] at hj
      subst h
      exact zz_lt hS2.2.2.2.2.out
    rw [if_neg h] at hj
    by_cases h : j = 606
    · rw [if_pos h] at hj
      subst h
      exact zz_ltO hS3.2.1
    rw [if_neg h] at hj
    by_cases h : j = 607
    · rw [if_pos h] at hj
      subst h
      exact zz_lt hS3.2.2.2.2.out
    rw [if_neg h] at hj
    by_cases h : j = 608
    · rw [if_pos h] at hj
      subst h
      exact zz_ltO hS4.2.1
    rw [if_neg h] at hj
    by_cases h : j = 609
    · rw [if_pos h] at hj
      subst h
      exact zz_lt hS4.2.2.2.2.out
    rw [if_neg h] at hj
    by_cases h : j = 610
    · rw [if_pos h] at hj
      subst h
      exact zz_ltO hS5.2.1
    rw [if_neg h] at hj
    by_cases h : j = 611
    · rw [if_pos h] at hj
      subst h
      exact zz_lt hS5.2.2.2.2.out
    rw [if_neg h] at hj
    by_cases h : j = 612
    · rw [if_pos h] at hj
      subst h
      exact zz_ltO hS6.2.1
    rw [if_neg h] at hj
    by_cases h : j = 613
    · rw [if_pos h] at hj
      subst h
      exact zz_lt hS6.2.2.2.2.out
    rw [if_neg h] at hj
    by_cases h : j = 614
    · rw [if_pos h] at hj
      subst h
      exact zz_ltO hS7.2.1
    rw [if_neg h] at hj
    by_cases h : j = 615
    · rw [if_pos h] at hj
      subst h
      exact zz_lt hS7.2.2.2.2.out
    rw [if_neg h] at hj
    by_cases h : j = 616
    · rw [if_pos h] at hj
      subst h
      exact zz_ltO hS8.2.1
    rw [if_neg h] at hj
    by_cases h : j = 617
    · rw [if_pos h] at hj
      subst h
      exact zz_lt hS8.2.2.2.2.out
    rw [if_neg h] at hj
    cases hj
  · intro e he x hx
    obtain ⟨_, _, _, _, _, _, _, hq2, _, _, _, hd1, hd2, hd3, hd4, hd5, _, _⟩ := zt_ift_ok e he
    cases Option.some.inj (hx.symm.trans hq2)
    exact va_Fw.of (hts _ hd1) (hts _ hd2) (hts _ hd3) (hts _ hd4) (hts _ hd5)
