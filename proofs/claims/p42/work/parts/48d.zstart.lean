set_option maxRecDepth 100000 in
set_option maxHeartbeats 4000000 in
theorem zz_strs {s : State} {args : Array Value} (hts : ∀ w ∈ lw_tbl, w.before args s = true) (hn : narrow_1.before args s = true) : ∃ q v : Nat → Nat, ∀ i own k tx j, zt_str[i]? = some (own, k, tx, j) → ∃ n byt, zt_tx[i]? = some byt ∧ byt.length = n ∧ j = 600 + 2 * i ∧ zz_SF (fun x => s.heap.size ≤ x) s own k tx n byt (q i) (v i) := by
  have hA : ∀ a : Nat, a < s.heap.size → ¬ (fun x => s.heap.size ≤ x) a := fun a h => Nat.not_le.mpr h
  obtain ⟨q0, v0, hS0⟩ := zz_str (A := fun x => s.heap.size ≤ x) (own := "ColumnVaultLaw") (k := 217) (tx := "#") (n := 1) (byt := [35]) (by decide) (hts _ (zt_ch_in (j := 7) (List.mem_of_getElem? (i := 109) rfl))) (zzn_0 hn) (zzn_1 hn) (zzn_2 hn) (zzn_3 hn) (fun j hj => match j, hj with
    | 0, _ => (zzn_4 hn)
    | j + 1, hj => absurd hj (Nat.not_lt.mpr (Nat.le_add_left 1 j))) hA
  obtain ⟨q1, v1, hS1⟩ := zz_str (A := fun x => s.heap.size ≤ x) (own := "ColumnVaultLaw") (k := 225) (tx := " ") (n := 1) (byt := [32]) (by decide) (hts _ (zt_ch_in (j := 7) (List.mem_of_getElem? (i := 80) rfl))) (zzn_5 hn) (zzn_6 hn) (zzn_7 hn) (zzn_8 hn) (fun j hj => match j, hj with
    | 0, _ => (zzn_9 hn)
    | j + 1, hj => absurd hj (Nat.not_lt.mpr (Nat.le_add_left 1 j))) hA
  obtain ⟨q2, v2, hS2⟩ := zz_str (A := fun x => s.heap.size ≤ x) (own := "ColumnVaultLaw") (k := 227) (tx := "") (n := 0) (byt := []) (by decide) (hts _ (zt_ch_in (j := 7) (List.mem_of_getElem? (i := 81) rfl))) (zzn_10 hn) (zzn_11 hn) (zzn_12 hn) (zzn_13 hn) (fun j hj => match j, hj with
    | j + 0, hj => absurd hj (Nat.not_lt.mpr (Nat.le_add_left 0 j))) hA
  obtain ⟨q3, v3, hS3⟩ := zz_str (A := fun x => s.heap.size ≤ x) (own := "ColumnVaultLaw") (k := 229) (tx := "<") (n := 1) (byt := [60]) (by decide) (hts _ (zt_ch_in (j := 7) (List.mem_of_getElem? (i := 111) rfl))) (zzn_14 hn) (zzn_15 hn) (zzn_16 hn) (zzn_17 hn) (fun j hj => match j, hj with
    | 0, _ => (zzn_18 hn)
    | j + 1, hj => absurd hj (Nat.not_lt.mpr (Nat.le_add_left 1 j))) hA
  obtain ⟨q4, v4, hS4⟩ := zz_str (A := fun x => s.heap.size ≤ x) (own := "ColumnVaultLaw") (k := 231) (tx := ">") (n := 1) (byt := [62]) (by decide) (hts _ (zt_ch_in (j := 7) (List.mem_of_getElem? (i := 112) rfl))) (zzn_19 hn) (zzn_20 hn) (zzn_21 hn) (zzn_22 hn) (fun j hj => match j, hj with
    | 0, _ => (zzn_23 hn)
    | j + 1, hj => absurd hj (Nat.not_lt.mpr (Nat.le_add_left 1 j))) hA
  obtain ⟨q5, v5, hS5⟩ := zz_str (A := fun x => s.heap.size ≤ x) (own := "ColumnVaultLaw") (k := 233) (tx := "=") (n := 1) (byt := [61]) (by decide) (hts _ (zt_ch_in (j := 7) (List.mem_of_getElem? (i := 113) rfl))) (zzn_24 hn) (zzn_25 hn) (zzn_26 hn) (zzn_27 hn) (fun j hj => match j, hj with
    | 0, _ => (zzn_28 hn)
    | j + 1, hj => absurd hj (Nat.not_lt.mpr (Nat.le_add_left 1 j))) hA
  obtain ⟨q6, v6, hS6⟩ := zz_str (A := fun x => s.heap.size ≤ x) (own := "ColumnVaultLaw") (k := 235) (tx := "to") (n := 2) (byt := [116, 111]) (by decide) (hts _ (zt_ch_in (j := 7) (List.mem_of_getElem? (i := 114) rfl))) (zzn_29 hn) (zzn_30 hn) (zzn_31 hn) (zzn_32 hn) (fun j hj => match j, hj with
    | 0, _ => (zzn_33 hn)
    | 1, _ => (zzn_34 hn)
    | j + 2, hj => absurd hj (Nat.not_lt.mpr (Nat.le_add_left 2 j))) hA
  obtain ⟨q7, v7, hS7⟩ := zz_str (A := fun x => s.heap.size ≤ x) (own := "ColumnVaultLaw") (k := 237) (tx := "in") (n := 2) (byt := [105, 110]) (by decide) (hts _ (zt_ch_in (j := 7) (List.mem_of_getElem? (i := 115) rfl))) (zzn_35 hn) (zzn_36 hn) (zzn_37 hn) (zzn_38 hn) (fun j hj => match j, hj with
    | 0, _ => (zzn_39 hn)
    | 1, _ => (zzn_40 hn)
    | j + 2, hj => absurd hj (Nat.not_lt.mpr (Nat.le_add_left 2 j))) hA
  obtain ⟨q8, v8, hS8⟩ := zz_str (A := fun x => s.heap.size ≤ x) (own := "ColumnVaultLaw") (k := 239) (tx := "missing") (n := 7) (byt := [109, 105, 115, 115, 105, 110, 103]) (by decide) (hts _ (zt_ch_in (j := 7) (List.mem_of_getElem? (i := 116) rfl))) (zzn_41 hn) (zzn_42 hn) (zzn_43 hn) (zzn_44 hn) (fun j hj => match j, hj with
    | 0, _ => (zzn_45 hn)
    | 1, _ => (zzn_46 hn)
    | 2, _ => (zzn_47 hn)
    | 3, _ => (zzn_48 hn)
    | 4, _ => (zzn_49 hn)
    | 5, _ => (zzn_50 hn)
    | 6, _ => (zzn_51 hn)
    | j + 7, hj => absurd hj (Nat.not_lt.mpr (Nat.le_add_left 7 j))) hA
  obtain ⟨q9, v9, hS9⟩ := zz_str (A := fun x => s.heap.size ≤ x) (own := "ColumnVaultLaw") (k := 244) (tx := "!") (n := 1) (byt := [33]) (by decide) (hts _ (zt_ch_in (j := 7) (List.mem_of_getElem? (i := 102) rfl))) (zzn_52 hn) (zzn_53 hn) (zzn_54 hn) (zzn_55 hn) (fun j hj => match j, hj with
    | 0, _ => (zzn_56 hn)
    | j + 1, hj => absurd hj (Nat.not_lt.mpr (Nat.le_add_left 1 j))) hA
  obtain ⟨q10, v10, hS10⟩ := zz_str (A := fun x => s.heap.size ≤ x) (own := "ColumnVaultLaw") (k := 246) (tx := "! ") (n := 2) (byt := [33, 32]) (by decide) (hts _ (zt_ch_in (j := 7) (List.mem_of_getElem? (i := 103) rfl))) (zzn_57 hn) (zzn_58 hn) (zzn_59 hn) (zzn_60 hn) (fun j hj => match j, hj with
    | 0, _ => (zzn_61 hn)
    | 1, _ => (zzn_62 hn)
    | j + 2, hj => absurd hj (Nat.not_lt.mpr (Nat.le_add_left 2 j))) hA
  obtain ⟨q11, v11, hS11⟩ := zz_str (A := fun x => s.heap.size ≤ x) (own := "ColumnVaultLaw") (k := 252) (tx := "(") (n := 1) (byt := [40]) (by decide) (hts _ (zt_ch_in (j := 7) (List.mem_of_getElem? (i := 104) rfl))) (zzn_63 hn) (zzn_64 hn) (zzn_65 hn) (zzn_66 hn) (fun j hj => match j, hj with
    | 0, _ => (zzn_67 hn)
    | j + 1, hj => absurd hj (Nat.not_lt.mpr (Nat.le_add_left 1 j))) hA
  obtain ⟨q12, v12, hS12⟩ := zz_str (A := fun x => s.heap.size ≤ x) (own := "ColumnVaultLaw") (k := 257) (tx := ")") (n := 1) (byt := [41]) (by decide) (hts _ (zt_ch_in (j := 7) (List.mem_of_getElem? (i := 105) rfl))) (zzn_68 hn) (zzn_69 hn) (zzn_70 hn) (zzn_71 hn) (fun j hj => match j, hj with
    | 0, _ => (zzn_72 hn)
    | j + 1, hj => absurd hj (Nat.not_lt.mpr (Nat.le_add_left 1 j))) hA
  obtain ⟨q13, v13, hS13⟩ := zz_str (A := fun x => s.heap.size ≤ x) (own := "ColumnVaultLaw") (k := 263) (tx := "|") (n := 1) (byt := [124]) (by decide) (hts _ (zt_ch_in (j := 7) (List.mem_of_getElem? (i := 96) rfl))) (zzn_73 hn) (zzn_74 hn) (zzn_75 hn) (zzn_76 hn) (fun j hj => match j, hj with
    | 0, _ => (zzn_77 hn)
    | j + 1, hj => absurd hj (Nat.not_lt.mpr (Nat.le_add_left 1 j))) hA
  obtain ⟨q14, v14, hS14⟩ := zz_str (A := fun x => s.heap.size ≤ x) (own := "ColumnVaultLaw") (k := 265) (tx := " | ") (n := 3) (byt := [32, 124, 32]) (by decide) (hts _ (zt_ch_in (j := 7) (List.mem_of_getElem? (i := 97) rfl))) (zzn_78 hn) (zzn_79 hn) (zzn_80 hn) (zzn_81 hn) (fun j hj => match j, hj with
    | 0, _ => (zzn_82 hn)
    | 1, _ => (zzn_83 hn)
    | 2, _ => (zzn_84 hn)
    | j + 3, hj => absurd hj (Nat.not_lt.mpr (Nat.le_add_left 3 j))) hA
  obtain ⟨q15, v15, hS15⟩ := zz_str (A := fun x => s.heap.size ≤ x) (own := "ColumnVaultLaw") (k := 267) (tx := "&") (n := 1) (byt := [38]) (by decide) (hts _ (zt_ch_in (j := 7) (List.mem_of_getElem? (i := 144) rfl))) (zzn_85 hn) (zzn_86 hn) (zzn_87 hn) (zzn_88 hn) (fun j hj => match j, hj with
    | 0, _ => (zzn_89 hn)
    | j + 1, hj => absurd hj (Nat.not_lt.mpr (Nat.le_add_left 1 j))) hA
  obtain ⟨q16, v16, hS16⟩ := zz_str (A := fun x => s.heap.size ≤ x) (own := "ColumnVaultLaw") (k := 269) (tx := " & ") (n := 3) (byt := [32, 38, 32]) (by decide) (hts _ (zt_ch_in (j := 7) (List.mem_of_getElem? (i := 145) rfl))) (zzn_90 hn) (zzn_91 hn) (zzn_92 hn) (zzn_93 hn) (fun j hj => match j, hj with
    | 0, _ => (zzn_94 hn)
    | 1, _ => (zzn_95 hn)
    | 2, _ => (zzn_96 hn)
    | j + 3, hj => absurd hj (Nat.not_lt.mpr (Nat.le_add_left 3 j))) hA
  obtain ⟨q17, v17, hS17⟩ := zz_str (A := fun x => s.heap.size ≤ x) (own := "ColumnVaultLaw") (k := 308) (tx := "!(") (n := 2) (byt := [33, 40]) (by decide) (hts _ (zt_ch_in (j := 7) (List.mem_of_getElem? (i := 207) rfl))) (zzn_97 hn) (zzn_98 hn) (zzn_99 hn) (zzn_100 hn) (fun j hj => match j, hj with
    | 0, _ => (zzn_101 hn)
    | 1, _ => (zzn_102 hn)
    | j + 2, hj => absurd hj (Nat.not_lt.mpr (Nat.le_add_left 2 j))) hA
  obtain ⟨q18, v18, hS18⟩ := zz_str (A := fun x => s.heap.size ≤ x) (own := "ColumnVaultLaw") (k := 317) (tx := "#0 < ") (n := 5) (byt := [35, 48, 32, 60, 32]) (by decide) (hts _ (zt_ch_in (j := 8) (List.mem_of_getElem? (i := 54) rfl))) (zzn_103 hn) (zzn_104 hn) (zzn_105 hn) (zzn_106 hn) (fun j hj => match j, hj with
    | 0, _ => (zzn_107 hn)
    | 1, _ => (zzn_108 hn)
    | 2, _ => (zzn_109 hn)
    | 3, _ => (zzn_110 hn)
    | 4, _ => (zzn_111 hn)
    | j + 5, hj => absurd hj (Nat.not_lt.mpr (Nat.le_add_left 5 j))) hA
  obtain ⟨q19, v19, hS19⟩ := zz_str (A := fun x => s.heap.size ≤ x) (own := "ColumnVaultLaw") (k := 319) (tx := "#0 = 5 ") (n := 7) (byt := [35, 48, 32, 61, 32, 53, 32]) (by decide) (hts _ (zt_ch_in (j := 8) (List.mem_of_getElem? (i := 55) rfl))) (zzn_112 hn) (zzn_113 hn) (zzn_114 hn) (zzn_115 hn) (fun j hj => match j, hj with
    | 0, _ => (zzn_116 hn)
    | 1, _ => (zzn_117 hn)
    | 2, _ => (zzn_118 hn)
    | 3, _ => (zzn_119 hn)
    | 4, _ => (zzn_120 hn)
    | 5, _ => (zzn_121 hn)
    | 6, _ => (zzn_122 hn)
    | j + 7, hj => absurd hj (Nat.not_lt.mpr (Nat.le_add_left 7 j))) hA
  obtain ⟨q20, v20, hS20⟩ := zz_str (A := fun x => s.heap.size ≤ x) (own := "ColumnVaultLaw") (k := 321) (tx := "#0 ") (n := 3) (byt := [35, 48, 32]) (by decide) (hts _ (zt_ch_in (j := 8) (List.mem_of_getElem? (i := 56) rfl))) (zzn_123 hn) (zzn_124 hn) (zzn_125 hn) (zzn_126 hn) (fun j hj => match j, hj with
    | 0, _ => (zzn_127 hn)
    | 1, _ => (zzn_128 hn)
    | 2, _ => (zzn_129 hn)
    | j + 3, hj => absurd hj (Nat.not_lt.mpr (Nat.le_add_left 3 j))) hA
  obtain ⟨q21, v21, hS21⟩ := zz_str (A := fun x => s.heap.size ≤ x) (own := "ColumnVaultLaw") (k := 323) (tx := "#0 to 1 ") (n := 8) (byt := [35, 48, 32, 116, 111, 32, 49, 32]) (by decide) (hts _ (zt_ch_in (j := 8) (List.mem_of_getElem? (i := 57) rfl))) (zzn_130 hn) (zzn_131 hn) (zzn_132 hn) (zzn_133 hn) (fun j hj => match j, hj with
    | 0, _ => (zzn_134 hn)
    | 1, _ => (zzn_135 hn)
    | 2, _ => (zzn_136 hn)
    | 3, _ => (zzn_137 hn)
    | 4, _ => (zzn_138 hn)
    | 5, _ => (zzn_139 hn)
    | 6, _ => (zzn_140 hn)
    | 7, _ => (zzn_141 hn)
    | j + 8, hj => absurd hj (Nat.not_lt.mpr (Nat.le_add_left 8 j))) hA
  obtain ⟨q22, v22, hS22⟩ := zz_str (A := fun x => s.heap.size ≤ x) (own := "ColumnVaultLaw") (k := 325) (tx := "#0 in 1 2 3 4 5 6 ") (n := 18) (byt := [35, 48, 32, 105, 110, 32, 49, 32, 50, 32, 51, 32, 52, 32, 53, 32, 54, 32]) (by decide) (hts _ (zt_ch_in (j := 8) (List.mem_of_getElem? (i := 58) rfl))) (zzn_142 hn) (zzn_143 hn) (zzn_144 hn) (zzn_145 hn) (fun j hj => match j, hj with
    | 0, _ => (zzn_146 hn)
    | 1, _ => (zzn_147 hn)
    | 2, _ => (zzn_148 hn)
    | 3, _ => (zzn_149 hn)
    | 4, _ => (zzn_150 hn)
    | 5, _ => (zzn_151 hn)
    | 6, _ => (zzn_152 hn)
    | 7, _ => (zzn_153 hn)
    | 8, _ => (zzn_154 hn)
    | 9, _ => (zzn_155 hn)
    | 10, _ => (zzn_156 hn)
    | 11, _ => (zzn_157 hn)
    | 12, _ => (zzn_158 hn)
    | 13, _ => (zzn_159 hn)
    | 14, _ => (zzn_160 hn)
    | 15, _ => (zzn_161 hn)
    | 16, _ => (zzn_162 hn)
    | 17, _ => (zzn_163 hn)
    | j + 18, hj => absurd hj (Nat.not_lt.mpr (Nat.le_add_left 18 j))) hA
  obtain ⟨q23, v23, hS23⟩ := zz_str (A := fun x => s.heap.size ≤ x) (own := "ColumnVaultLaw") (k := 327) (tx := "!!!") (n := 3) (byt := [33, 33, 33]) (by decide) (hts _ (zt_ch_in (j := 8) (List.mem_of_getElem? (i := 59) rfl))) (zzn_164 hn) (zzn_165 hn) (zzn_166 hn) (zzn_167 hn) (fun j hj => match j, hj with
    | 0, _ => (zzn_168 hn)
    | 1, _ => (zzn_169 hn)
    | 2, _ => (zzn_170 hn)
    | j + 3, hj => absurd hj (Nat.not_lt.mpr (Nat.le_add_left 3 j))) hA
  obtain ⟨q24, v24, hS24⟩ := zz_str (A := fun x => s.heap.size ≤ x) (own := "ColumnVaultLaw") (k := 329) (tx := "((((((") (n := 6) (byt := [40, 40, 40, 40, 40, 40]) (by decide) (hts _ (zt_ch_in (j := 8) (List.mem_of_getElem? (i := 60) rfl))) (zzn_171 hn) (zzn_172 hn) (zzn_173 hn) (zzn_174 hn) (fun j hj => match j, hj with
    | 0, _ => (zzn_175 hn)
    | 1, _ => (zzn_176 hn)
    | 2, _ => (zzn_177 hn)
    | 3, _ => (zzn_178 hn)
    | 4, _ => (zzn_179 hn)
    | 5, _ => (zzn_180 hn)
    | j + 6, hj => absurd hj (Nat.not_lt.mpr (Nat.le_add_left 6 j))) hA
  obtain ⟨q25, v25, hS25⟩ := zz_str (A := fun x => s.heap.size ≤ x) (own := "ColumnVaultLaw") (k := 331) (tx := "#0 = ") (n := 5) (byt := [35, 48, 32, 61, 32]) (by decide) (hts _ (zt_ch_in (j := 8) (List.mem_of_getElem? (i := 61) rfl))) (zzn_181 hn) (zzn_182 hn) (zzn_183 hn) (zzn_184 hn) (fun j hj => match j, hj with
    | 0, _ => (zzn_185 hn)
    | 1, _ => (zzn_186 hn)
    | 2, _ => (zzn_187 hn)
    | 3, _ => (zzn_188 hn)
    | 4, _ => (zzn_189 hn)
    | j + 5, hj => absurd hj (Nat.not_lt.mpr (Nat.le_add_left 5 j))) hA
  obtain ⟨q26, v26, hS26⟩ := zz_str (A := fun x => s.heap.size ≤ x) (own := "ColumnVaultLaw") (k := 333) (tx := "#0 < 5 & ") (n := 9) (byt := [35, 48, 32, 60, 32, 53, 32, 38, 32]) (by decide) (hts _ (zt_ch_in (j := 8) (List.mem_of_getElem? (i := 62) rfl))) (zzn_190 hn) (zzn_191 hn) (zzn_192 hn) (zzn_193 hn) (fun j hj => match j, hj with
    | 0, _ => (zzn_194 hn)
    | 1, _ => (zzn_195 hn)
    | 2, _ => (zzn_196 hn)
    | 3, _ => (zzn_197 hn)
    | 4, _ => (zzn_198 hn)
    | 5, _ => (zzn_199 hn)
    | 6, _ => (zzn_200 hn)
    | 7, _ => (zzn_201 hn)
    | 8, _ => (zzn_202 hn)
    | j + 9, hj => absurd hj (Nat.not_lt.mpr (Nat.le_add_left 9 j))) hA
  obtain ⟨q27, v27, hS27⟩ := zz_str (A := fun x => s.heap.size ≤ x) (own := "ColumnVaultLaw") (k := 335) (tx := "(#0 missing") (n := 11) (byt := [40, 35, 48, 32, 109, 105, 115, 115, 105, 110, 103]) (by decide) (hts _ (zt_ch_in (j := 8) (List.mem_of_getElem? (i := 63) rfl))) (zzn_203 hn) (zzn_204 hn) (zzn_205 hn) (zzn_206 hn) (fun j hj => match j, hj with
    | 0, _ => (zzn_207 hn)
    | 1, _ => (zzn_208 hn)
    | 2, _ => (zzn_209 hn)
    | 3, _ => (zzn_210 hn)
    | 4, _ => (zzn_211 hn)
    | 5, _ => (zzn_212 hn)
    | 6, _ => (zzn_213 hn)
    | 7, _ => (zzn_214 hn)
    | 8, _ => (zzn_215 hn)
    | 9, _ => (zzn_216 hn)
    | 10, _ => (zzn_217 hn)
    | j + 11, hj => absurd hj (Nat.not_lt.mpr (Nat.le_add_left 11 j))) hA
  obtain ⟨q28, v28, hS28⟩ := zz_str (A := fun x => s.heap.size ≤ x) (own := "ColumnVaultLaw") (k := 337) (tx := "#0 > -") (n := 6) (byt := [35, 48, 32, 62, 32, 45]) (by decide) (hts _ (zt_ch_in (j := 8) (List.mem_of_getElem? (i := 64) rfl))) (zzn_218 hn) (zzn_219 hn) (zzn_220 hn) (zzn_221 hn) (fun j hj => match j, hj with
    | 0, _ => (zzn_222 hn)
    | 1, _ => (zzn_223 hn)
    | 2, _ => (zzn_224 hn)
    | 3, _ => (zzn_225 hn)
    | 4, _ => (zzn_226 hn)
    | 5, _ => (zzn_227 hn)
    | j + 6, hj => absurd hj (Nat.not_lt.mpr (Nat.le_add_left 6 j))) hA
  obtain ⟨q29, v29, hS29⟩ := zz_str (A := fun x => s.heap.size ≤ x) (own := "ColumnVaultLaw") (k := 339) (tx := "#0 missing ") (n := 11) (byt := [35, 48, 32, 109, 105, 115, 115, 105, 110, 103, 32]) (by decide) (hts _ (zt_ch_in (j := 8) (List.mem_of_getElem? (i := 65) rfl))) (zzn_228 hn) (zzn_229 hn) (zzn_230 hn) (zzn_231 hn) (fun j hj => match j, hj with
    | 0, _ => (zzn_232 hn)
    | 1, _ => (zzn_233 hn)
    | 2, _ => (zzn_234 hn)
    | 3, _ => (zzn_235 hn)
    | 4, _ => (zzn_236 hn)
    | 5, _ => (zzn_237 hn)
    | 6, _ => (zzn_238 hn)
    | 7, _ => (zzn_239 hn)
    | 8, _ => (zzn_240 hn)
    | 9, _ => (zzn_241 hn)
    | 10, _ => (zzn_242 hn)
    | j + 11, hj => absurd hj (Nat.not_lt.mpr (Nat.le_add_left 11 j))) hA
  obtain ⟨q30, v30, hS30⟩ := zz_str (A := fun x => s.heap.size ≤ x) (own := "ColumnVaultLaw") (k := 341) (tx := "#0 = 5 | ") (n := 9) (byt := [35, 48, 32, 61, 32, 53, 32, 124, 32]) (by decide) (hts _ (zt_ch_in (j := 8) (List.mem_of_getElem? (i := 66) rfl))) (zzn_243 hn) (zzn_244 hn) (zzn_245 hn) (zzn_246 hn) (fun j hj => match j, hj with
    | 0, _ => (zzn_247 hn)
    | 1, _ => (zzn_248 hn)
    | 2, _ => (zzn_249 hn)
    | 3, _ => (zzn_250 hn)
    | 4, _ => (zzn_251 hn)
    | 5, _ => (zzn_252 hn)
    | 6, _ => (zzn_253 hn)
    | 7, _ => (zzn_254 hn)
    | 8, _ => (zzn_255 hn)
    | j + 9, hj => absurd hj (Nat.not_lt.mpr (Nat.le_add_left 9 j))) hA
  obtain ⟨q31, v31, hS31⟩ := zz_str (A := fun x => s.heap.size ≤ x) (own := "ColumnVaultLaw") (k := 343) (tx := "5") (n := 1) (byt := [53]) (by decide) (hts _ (zt_ch_in (j := 8) (List.mem_of_getElem? (i := 67) rfl))) (zzn_256 hn) (zzn_257 hn) (zzn_258 hn) (zzn_259 hn) (fun j hj => match j, hj with
    | 0, _ => (zzn_260 hn)
    | j + 1, hj => absurd hj (Nat.not_lt.mpr (Nat.le_add_left 1 j))) hA
  obtain ⟨q32, v32, hS32⟩ := zz_str (A := fun x => s.heap.size ≤ x) (own := "ColumnVaultLaw") (k := 345) (tx := "missin") (n := 6) (byt := [109, 105, 115, 115, 105, 110]) (by decide) (hts _ (zt_ch_in (j := 8) (List.mem_of_getElem? (i := 68) rfl))) (zzn_261 hn) (zzn_262 hn) (zzn_263 hn) (zzn_264 hn) (fun j hj => match j, hj with
    | 0, _ => (zzn_265 hn)
    | 1, _ => (zzn_266 hn)
    | 2, _ => (zzn_267 hn)
    | 3, _ => (zzn_268 hn)
    | 4, _ => (zzn_269 hn)
    | 5, _ => (zzn_270 hn)
    | j + 6, hj => absurd hj (Nat.not_lt.mpr (Nat.le_add_left 6 j))) hA
  obtain ⟨q33, v33, hS33⟩ := zz_str (A := fun x => s.heap.size ≤ x) (own := "ColumnVaultLaw") (k := 347) (tx := "x") (n := 1) (byt := [120]) (by decide) (hts _ (zt_ch_in (j := 8) (List.mem_of_getElem? (i := 69) rfl))) (zzn_271 hn) (zzn_272 hn) (zzn_273 hn) (zzn_274 hn) (fun j hj => match j, hj with
    | 0, _ => (zzn_275 hn)
    | j + 1, hj => absurd hj (Nat.not_lt.mpr (Nat.le_add_left 1 j))) hA
  obtain ⟨q34, v34, hS34⟩ := zz_str (A := fun x => s.heap.size ≤ x) (own := "ColumnVaultLaw") (k := 349) (tx := "7") (n := 1) (byt := [55]) (by decide) (hts _ (zt_ch_in (j := 8) (List.mem_of_getElem? (i := 70) rfl))) (zzn_276 hn) (zzn_277 hn) (zzn_278 hn) (zzn_279 hn) (fun j hj => match j, hj with
    | 0, _ => (zzn_280 hn)
    | j + 1, hj => absurd hj (Nat.not_lt.mpr (Nat.le_add_left 1 j))) hA
  obtain ⟨q35, v35, hS35⟩ := zz_str (A := fun x => s.heap.size ≤ x) (own := "ColumnVaultLaw") (k := 351) (tx := "!#0=1") (n := 5) (byt := [33, 35, 48, 61, 49]) (by decide) (hts _ (zt_ch_in (j := 8) (List.mem_of_getElem? (i := 71) rfl))) (zzn_281 hn) (zzn_282 hn) (zzn_283 hn) (zzn_284 hn) (fun j hj => match j, hj with
    | 0, _ => (zzn_285 hn)
    | 1, _ => (zzn_286 hn)
    | 2, _ => (zzn_287 hn)
    | 3, _ => (zzn_288 hn)
    | 4, _ => (zzn_289 hn)
    | j + 5, hj => absurd hj (Nat.not_lt.mpr (Nat.le_add_left 5 j))) hA
  obtain ⟨q36, v36, hS36⟩ := zz_str (A := fun x => s.heap.size ≤ x) (own := "ColumnVaultLaw") (k := 353) (tx := "(#0=1") (n := 5) (byt := [40, 35, 48, 61, 49]) (by decide) (hts _ (zt_ch_in (j := 8) (List.mem_of_getElem? (i := 72) rfl))) (zzn_290 hn) (zzn_291 hn) (zzn_292 hn) (zzn_293 hn) (fun j hj => match j, hj with
    | 0, _ => (zzn_294 hn)
    | 1, _ => (zzn_295 hn)
    | 2, _ => (zzn_296 hn)
    | 3, _ => (zzn_297 hn)
    | 4, _ => (zzn_298 hn)
    | j + 5, hj => absurd hj (Nat.not_lt.mpr (Nat.le_add_left 5 j))) hA
  obtain ⟨q37, v37, hS37⟩ := zz_str (A := fun x => s.heap.size ≤ x) (own := "ColumnVaultLaw") (k := 355) (tx := "abcdefgh") (n := 8) (byt := [97, 98, 99, 100, 101, 102, 103, 104]) (by decide) (hts _ (zt_ch_in (j := 8) (List.mem_of_getElem? (i := 73) rfl))) (zzn_299 hn) (zzn_300 hn) (zzn_301 hn) (zzn_302 hn) (fun j hj => match j, hj with
    | 0, _ => (zzn_303 hn)
    | 1, _ => (zzn_304 hn)
    | 2, _ => (zzn_305 hn)
    | 3, _ => (zzn_306 hn)
    | 4, _ => (zzn_307 hn)
    | 5, _ => (zzn_308 hn)
    | 6, _ => (zzn_309 hn)
    | 7, _ => (zzn_310 hn)
    | j + 8, hj => absurd hj (Nat.not_lt.mpr (Nat.le_add_left 8 j))) hA
  obtain ⟨q38, v38, hS38⟩ := zz_str (A := fun x => s.heap.size ≤ x) (own := "ColumnVaultLaw") (k := 357) (tx := "5-") (n := 2) (byt := [53, 45]) (by decide) (hts _ (zt_ch_in (j := 8) (List.mem_of_getElem? (i := 74) rfl))) (zzn_311 hn) (zzn_312 hn) (zzn_313 hn) (zzn_314 hn) (fun j hj => match j, hj with
    | 0, _ => (zzn_315 hn)
    | 1, _ => (zzn_316 hn)
    | j + 2, hj => absurd hj (Nat.not_lt.mpr (Nat.le_add_left 2 j))) hA
  obtain ⟨q39, v39, hS39⟩ := zz_str (A := fun x => s.heap.size ≤ x) (own := "ColumnVaultLaw") (k := 359) (tx := "=1") (n := 2) (byt := [61, 49]) (by decide) (hts _ (zt_ch_in (j := 8) (List.mem_of_getElem? (i := 75) rfl))) (zzn_317 hn) (zzn_318 hn) (zzn_319 hn) (zzn_320 hn) (fun j hj => match j, hj with
    | 0, _ => (zzn_321 hn)
    | 1, _ => (zzn_322 hn)
    | j + 2, hj => absurd hj (Nat.not_lt.mpr (Nat.le_add_left 2 j))) hA
  obtain ⟨q40, v40, hS40⟩ := zz_str (A := fun x => s.heap.size ≤ x) (own := "ColumnVaultLaw") (k := 361) (tx := "#1 = 5") (n := 6) (byt := [35, 49, 32, 61, 32, 53]) (by decide) (hts _ (zt_ch_in (j := 8) (List.mem_of_getElem? (i := 76) rfl))) (zzn_323 hn) (zzn_324 hn) (zzn_325 hn) (zzn_326 hn) (fun j hj => match j, hj with
    | 0, _ => (zzn_327 hn)
    | 1, _ => (zzn_328 hn)
    | 2, _ => (zzn_329 hn)
    | 3, _ => (zzn_330 hn)
    | 4, _ => (zzn_331 hn)
    | 5, _ => (zzn_332 hn)
    | j + 6, hj => absurd hj (Nat.not_lt.mpr (Nat.le_add_left 6 j))) hA
  obtain ⟨q41, v41, hS41⟩ := zz_str (A := fun x => s.heap.size ≤ x) (own := "ColumnVaultLaw") (k := 363) (tx := "#0 = five") (n := 9) (byt := [35, 48, 32, 61, 32, 102, 105, 118, 101]) (by decide) (hts _ (zt_ch_in (j := 8) (List.mem_of_getElem? (i := 77) rfl))) (zzn_333 hn) (zzn_334 hn) (zzn_335 hn) (zzn_336 hn) (fun j hj => match j, hj with
    | 0, _ => (zzn_337 hn)
    | 1, _ => (zzn_338 hn)
    | 2, _ => (zzn_339 hn)
    | 3, _ => (zzn_340 hn)
    | 4, _ => (zzn_341 hn)
    | 5, _ => (zzn_342 hn)
    | 6, _ => (zzn_343 hn)
    | 7, _ => (zzn_344 hn)
    | 8, _ => (zzn_345 hn)
    | j + 9, hj => absurd hj (Nat.not_lt.mpr (Nat.le_add_left 9 j))) hA
  refine ⟨fun i => [q0, q1, q2, q3, q4, q5, q6, q7, q8, q9, q10, q11, q12, q13, q14, q15, q16, q17, q18, q19, q20, q21, q22, q23, q24, q25, q26, q27, q28, q29, q30, q31, q32, q33, q34, q35, q36, q37, q38, q39, q40, q41].getD i 0, fun i => [v0, v1, v2, v3, v4, v5, v6, v7, v8, v9, v10, v11, v12, v13, v14, v15, v16, v17, v18, v19, v20, v21, v22, v23, v24, v25, v26, v27, v28, v29, v30, v31, v32, v33, v34, v35, v36, v37, v38, v39, v40, v41].getD i 0, fun i own k tx j h => ?_⟩
  match i, h with
  | 0, h => cases h; exact ⟨_, _, rfl, rfl, rfl, hS0⟩
  | 1, h => cases h; exact ⟨_, _, rfl, rfl, rfl, hS1⟩
  | 2, h => cases h; exact ⟨_, _, rfl, rfl, rfl, hS2⟩
  | 3, h => cases h; exact ⟨_, _, rfl, rfl, rfl, hS3⟩
  | 4, h => cases h; exact ⟨_, _, rfl, rfl, rfl, hS4⟩
  | 5, h => cases h; exact ⟨_, _, rfl, rfl, rfl, hS5⟩
  | 6, h => cases h; exact ⟨_, _, rfl, rfl, rfl, hS6⟩
  | 7, h => cases h; exact ⟨_, _, rfl, rfl, rfl, hS7⟩
  | 8, h => cases h; exact ⟨_, _, rfl, rfl, rfl, hS8⟩
  | 9, h => cases h; exact ⟨_, _, rfl, rfl, rfl, hS9⟩
  | 10, h => cases h; exact ⟨_, _, rfl, rfl, rfl, hS10⟩
  | 11, h => cases h; exact ⟨_, _, rfl, rfl, rfl, hS11⟩
  | 12, h => cases h; exact ⟨_, _, rfl, rfl, rfl, hS12⟩
  | 13, h => cases h; exact ⟨_, _, rfl, rfl, rfl, hS13⟩
  | 14, h => cases h; exact ⟨_, _, rfl, rfl, rfl, hS14⟩
  | 15, h => cases h; exact ⟨_, _, rfl, rfl, rfl, hS15⟩
  | 16, h => cases h; exact ⟨_, _, rfl, rfl, rfl, hS16⟩
  | 17, h => cases h; exact ⟨_, _, rfl, rfl, rfl, hS17⟩
  | 18, h => cases h; exact ⟨_, _, rfl, rfl, rfl, hS18⟩
  | 19, h => cases h; exact ⟨_, _, rfl, rfl, rfl, hS19⟩
  | 20, h => cases h; exact ⟨_, _, rfl, rfl, rfl, hS20⟩
  | 21, h => cases h; exact ⟨_, _, rfl, rfl, rfl, hS21⟩
  | 22, h => cases h; exact ⟨_, _, rfl, rfl, rfl, hS22⟩
  | 23, h => cases h; exact ⟨_, _, rfl, rfl, rfl, hS23⟩
  | 24, h => cases h; exact ⟨_, _, rfl, rfl, rfl, hS24⟩
  | 25, h => cases h; exact ⟨_, _, rfl, rfl, rfl, hS25⟩
  | 26, h => cases h; exact ⟨_, _, rfl, rfl, rfl, hS26⟩
  | 27, h => cases h; exact ⟨_, _, rfl, rfl, rfl, hS27⟩
  | 28, h => cases h; exact ⟨_, _, rfl, rfl, rfl, hS28⟩
  | 29, h => cases h; exact ⟨_, _, rfl, rfl, rfl, hS29⟩
  | 30, h => cases h; exact ⟨_, _, rfl, rfl, rfl, hS30⟩
  | 31, h => cases h; exact ⟨_, _, rfl, rfl, rfl, hS31⟩
  | 32, h => cases h; exact ⟨_, _, rfl, rfl, rfl, hS32⟩
  | 33, h => cases h; exact ⟨_, _, rfl, rfl, rfl, hS33⟩
  | 34, h => cases h; exact ⟨_, _, rfl, rfl, rfl, hS34⟩
  | 35, h => cases h; exact ⟨_, _, rfl, rfl, rfl, hS35⟩
  | 36, h => cases h; exact ⟨_, _, rfl, rfl, rfl, hS36⟩
  | 37, h => cases h; exact ⟨_, _, rfl, rfl, rfl, hS37⟩
  | 38, h => cases h; exact ⟨_, _, rfl, rfl, rfl, hS38⟩
  | 39, h => cases h; exact ⟨_, _, rfl, rfl, rfl, hS39⟩
  | 40, h => cases h; exact ⟨_, _, rfl, rfl, rfl, hS40⟩
  | 41, h => cases h; exact ⟨_, _, rfl, rfl, rfl, hS41⟩
  | i + 42, h => cases h
set_option maxRecDepth 100000 in
set_option maxHeartbeats 4000000 in
theorem zz_ones {s : State} {args : Array Value} (hn : narrow_1.before args s = true) : ∃ t : Nat, (Term.static "java/lang/Integer" "DigitOnes" "[B").eval args s none [] s = some (.ref t) ∧ va_T .byte t 100 (fun j => .int ((fun i => Int32.ofNat (48 + i % 10)) j)) (fun x => s.heap.size ≤ x) s s.heap := by
  have hA : ∀ a : Nat, a < s.heap.size → ¬ (fun x => s.heap.size ≤ x) a := fun a h => Nat.not_le.mpr h
  exact va_Tof (N := 100) (by decide) (zzn_346 hn) (va_eqt (zzn_347 hn)) (fun j hj => match j, hj with
    | 0, _ => va_eqt (zzn_348 hn)
    | 1, _ => va_eqt (zzn_349 hn)
    | 2, _ => va_eqt (zzn_350 hn)
    | 3, _ => va_eqt (zzn_351 hn)
    | 4, _ => va_eqt (zzn_352 hn)
    | 5, _ => va_eqt (zzn_353 hn)
    | 6, _ => va_eqt (zzn_354 hn)
    | 7, _ => va_eqt (zzn_355 hn)
    | 8, _ => va_eqt (zzn_356 hn)
    | 9, _ => va_eqt (zzn_357 hn)
    | 10, _ => va_eqt (zzn_358 hn)
    | 11, _ => va_eqt (zzn_359 hn)
    | 12, _ => va_eqt (zzn_360 hn)
    | 13, _ => va_eqt (zzn_361 hn)
    | 14, _ => va_eqt (zzn_362 hn)
    | 15, _ => va_eqt (zzn_363 hn)
    | 16, _ => va_eqt (zzn_364 hn)
    | 17, _ => va_eqt (zzn_365 hn)
    | 18, _ => va_eqt (zzn_366 hn)
    | 19, _ => va_eqt (zzn_367 hn)
    | 20, _ => va_eqt (zzn_368 hn)
    | 21, _ => va_eqt (zzn_369 hn)
    | 22, _ => va_eqt (zzn_370 hn)
    | 23, _ => va_eqt (zzn_371 hn)
    | 24, _ => va_eqt (zzn_372 hn)
    | 25, _ => va_eqt (zzn_373 hn)
    | 26, _ => va_eqt (zzn_374 hn)
    | 27, _ => va_eqt (zzn_375 hn)
    | 28, _ => va_eqt (zzn_376 hn)
    | 29, _ => va_eqt (zzn_377 hn)
    | 30, _ => va_eqt (zzn_378 hn)
    | 31, _ => va_eqt (zzn_379 hn)
    | 32, _ => va_eqt (zzn_380 hn)
    | 33, _ => va_eqt (zzn_381 hn)
    | 34, _ => va_eqt (zzn_382 hn)
    | 35, _ => va_eqt (zzn_383 hn)
    | 36, _ => va_eqt (zzn_384 hn)
    | 37, _ => va_eqt (zzn_385 hn)
    | 38, _ => va_eqt (zzn_386 hn)
    | 39, _ => va_eqt (zzn_387 hn)
    | 40, _ => va_eqt (zzn_388 hn)
    | 41, _ => va_eqt (zzn_389 hn)
    | 42, _ => va_eqt (zzn_390 hn)
    | 43, _ => va_eqt (zzn_391 hn)
    | 44, _ => va_eqt (zzn_392 hn)
    | 45, _ => va_eqt (zzn_393 hn)
    | 46, _ => va_eqt (zzn_394 hn)
    | 47, _ => va_eqt (zzn_395 hn)
    | 48, _ => va_eqt (zzn_396 hn)
    | 49, _ => va_eqt (zzn_397 hn)
    | 50, _ => va_eqt (zzn_398 hn)
    | 51, _ => va_eqt (zzn_399 hn)
    | 52, _ => va_eqt (zzn_400 hn)
    | 53, _ => va_eqt (zzn_401 hn)
    | 54, _ => va_eqt (zzn_402 hn)
    | 55, _ => va_eqt (zzn_403 hn)
    | 56, _ => va_eqt (zzn_404 hn)
    | 57, _ => va_eqt (zzn_405 hn)
    | 58, _ => va_eqt (zzn_406 hn)
    | 59, _ => va_eqt (zzn_407 hn)
    | 60, _ => va_eqt (zzn_408 hn)
    | 61, _ => va_eqt (zzn_409 hn)
    | 62, _ => va_eqt (zzn_410 hn)
    | 63, _ => va_eqt (zzn_411 hn)
    | 64, _ => va_eqt (zzn_412 hn)
    | 65, _ => va_eqt (zzn_413 hn)
    | 66, _ => va_eqt (zzn_414 hn)
    | 67, _ => va_eqt (zzn_415 hn)
    | 68, _ => va_eqt (zzn_416 hn)
    | 69, _ => va_eqt (zzn_417 hn)
    | 70, _ => va_eqt (zzn_418 hn)
    | 71, _ => va_eqt (zzn_419 hn)
    | 72, _ => va_eqt (zzn_420 hn)
    | 73, _ => va_eqt (zzn_421 hn)
    | 74, _ => va_eqt (zzn_422 hn)
    | 75, _ => va_eqt (zzn_423 hn)
    | 76, _ => va_eqt (zzn_424 hn)
    | 77, _ => va_eqt (zzn_425 hn)
    | 78, _ => va_eqt (zzn_426 hn)
    | 79, _ => va_eqt (zzn_427 hn)
    | 80, _ => va_eqt (zzn_428 hn)
    | 81, _ => va_eqt (zzn_429 hn)
    | 82, _ => va_eqt (zzn_430 hn)
    | 83, _ => va_eqt (zzn_431 hn)
    | 84, _ => va_eqt (zzn_432 hn)
    | 85, _ => va_eqt (zzn_433 hn)
    | 86, _ => va_eqt (zzn_434 hn)
    | 87, _ => va_eqt (zzn_435 hn)
    | 88, _ => va_eqt (zzn_436 hn)
    | 89, _ => va_eqt (zzn_437 hn)
    | 90, _ => va_eqt (zzn_438 hn)
    | 91, _ => va_eqt (zzn_439 hn)
    | 92, _ => va_eqt (zzn_440 hn)
    | 93, _ => va_eqt (zzn_441 hn)
    | 94, _ => va_eqt (zzn_442 hn)
    | 95, _ => va_eqt (zzn_443 hn)
    | 96, _ => va_eqt (zzn_444 hn)
    | 97, _ => va_eqt (zzn_445 hn)
    | 98, _ => va_eqt (zzn_446 hn)
    | 99, _ => va_eqt (zzn_447 hn)
    | j + 100, hj => absurd hj (Nat.not_lt.mpr (Nat.le_add_left 100 j))) hA
set_option maxRecDepth 100000 in
set_option maxHeartbeats 4000000 in
theorem zz_tens {s : State} {args : Array Value} (hn : narrow_1.before args s = true) : ∃ t : Nat, (Term.static "java/lang/Integer" "DigitTens" "[B").eval args s none [] s = some (.ref t) ∧ va_T .byte t 100 (fun j => .int ((fun i => Int32.ofNat (48 + i / 10)) j)) (fun x => s.heap.size ≤ x) s s.heap := by
  have hA : ∀ a : Nat, a < s.heap.size → ¬ (fun x => s.heap.size ≤ x) a := fun a h => Nat.not_le.mpr h
  exact va_Tof (N := 100) (by decide) (zzn_448 hn) (va_eqt (zzn_449 hn)) (fun j hj => match j, hj with
    | 0, _ => va_eqt (zzn_450 hn)
    | 1, _ => va_eqt (zzn_451 hn)
    | 2, _ => va_eqt (zzn_452 hn)
    | 3, _ => va_eqt (zzn_453 hn)
    | 4, _ => va_eqt (zzn_454 hn)
    | 5, _ => va_eqt (zzn_455 hn)
    | 6, _ => va_eqt (zzn_456 hn)
    | 7, _ => va_eqt (zzn_457 hn)
    | 8, _ => va_eqt (zzn_458 hn)
    | 9, _ => va_eqt (zzn_459 hn)
    | 10, _ => va_eqt (zzn_460 hn)
    | 11, _ => va_eqt (zzn_461 hn)
    | 12, _ => va_eqt (zzn_462 hn)
    | 13, _ => va_eqt (zzn_463 hn)
    | 14, _ => va_eqt (zzn_464 hn)
    | 15, _ => va_eqt (zzn_465 hn)
    | 16, _ => va_eqt (zzn_466 hn)
    | 17, _ => va_eqt (zzn_467 hn)
    | 18, _ => va_eqt (zzn_468 hn)
    | 19, _ => va_eqt (zzn_469 hn)
    | 20, _ => va_eqt (zzn_470 hn)
    | 21, _ => va_eqt (zzn_471 hn)
    | 22, _ => va_eqt (zzn_472 hn)
    | 23, _ => va_eqt (zzn_473 hn)
    | 24, _ => va_eqt (zzn_474 hn)
    | 25, _ => va_eqt (zzn_475 hn)
    | 26, _ => va_eqt (zzn_476 hn)
    | 27, _ => va_eqt (zzn_477 hn)
    | 28, _ => va_eqt (zzn_478 hn)
    | 29, _ => va_eqt (zzn_479 hn)
    | 30, _ => va_eqt (zzn_480 hn)
    | 31, _ => va_eqt (zzn_481 hn)
    | 32, _ => va_eqt (zzn_482 hn)
    | 33, _ => va_eqt (zzn_483 hn)
    | 34, _ => va_eqt (zzn_484 hn)
    | 35, _ => va_eqt (zzn_485 hn)
    | 36, _ => va_eqt (zzn_486 hn)
    | 37, _ => va_eqt (zzn_487 hn)
    | 38, _ => va_eqt (zzn_488 hn)
    | 39, _ => va_eqt (zzn_489 hn)
    | 40, _ => va_eqt (zzn_490 hn)
    | 41, _ => va_eqt (zzn_491 hn)
    | 42, _ => va_eqt (zzn_492 hn)
    | 43, _ => va_eqt (zzn_493 hn)
    | 44, _ => va_eqt (zzn_494 hn)
    | 45, _ => va_eqt (zzn_495 hn)
    | 46, _ => va_eqt (zzn_496 hn)
    | 47, _ => va_eqt (zzn_497 hn)
    | 48, _ => va_eqt (zzn_498 hn)
    | 49, _ => va_eqt (zzn_499 hn)
    | 50, _ => va_eqt (zzn_500 hn)
    | 51, _ => va_eqt (zzn_501 hn)
    | 52, _ => va_eqt (zzn_502 hn)
    | 53, _ => va_eqt (zzn_503 hn)
    | 54, _ => va_eqt (zzn_504 hn)
    | 55, _ => va_eqt (zzn_505 hn)
    | 56, _ => va_eqt (zzn_506 hn)
    | 57, _ => va_eqt (zzn_507 hn)
    | 58, _ => va_eqt (zzn_508 hn)
    | 59, _ => va_eqt (zzn_509 hn)
    | 60, _ => va_eqt (zzn_510 hn)
    | 61, _ => va_eqt (zzn_511 hn)
    | 62, _ => va_eqt (zzn_512 hn)
    | 63, _ => va_eqt (zzn_513 hn)
    | 64, _ => va_eqt (zzn_514 hn)
    | 65, _ => va_eqt (zzn_515 hn)
    | 66, _ => va_eqt (zzn_516 hn)
    | 67, _ => va_eqt (zzn_517 hn)
    | 68, _ => va_eqt (zzn_518 hn)
    | 69, _ => va_eqt (zzn_519 hn)
    | 70, _ => va_eqt (zzn_520 hn)
    | 71, _ => va_eqt (zzn_521 hn)
    | 72, _ => va_eqt (zzn_522 hn)
    | 73, _ => va_eqt (zzn_523 hn)
    | 74, _ => va_eqt (zzn_524 hn)
    | 75, _ => va_eqt (zzn_525 hn)
    | 76, _ => va_eqt (zzn_526 hn)
    | 77, _ => va_eqt (zzn_527 hn)
    | 78, _ => va_eqt (zzn_528 hn)
    | 79, _ => va_eqt (zzn_529 hn)
    | 80, _ => va_eqt (zzn_530 hn)
    | 81, _ => va_eqt (zzn_531 hn)
    | 82, _ => va_eqt (zzn_532 hn)
    | 83, _ => va_eqt (zzn_533 hn)
    | 84, _ => va_eqt (zzn_534 hn)
    | 85, _ => va_eqt (zzn_535 hn)
    | 86, _ => va_eqt (zzn_536 hn)
    | 87, _ => va_eqt (zzn_537 hn)
    | 88, _ => va_eqt (zzn_538 hn)
    | 89, _ => va_eqt (zzn_539 hn)
    | 90, _ => va_eqt (zzn_540 hn)
    | 91, _ => va_eqt (zzn_541 hn)
    | 92, _ => va_eqt (zzn_542 hn)
    | 93, _ => va_eqt (zzn_543 hn)
    | 94, _ => va_eqt (zzn_544 hn)
    | 95, _ => va_eqt (zzn_545 hn)
    | 96, _ => va_eqt (zzn_546 hn)
    | 97, _ => va_eqt (zzn_547 hn)
    | 98, _ => va_eqt (zzn_548 hn)
    | 99, _ => va_eqt (zzn_549 hn)
    | j + 100, hj => absurd hj (Nat.not_lt.mpr (Nat.le_add_left 100 j))) hA
