set_option maxRecDepth 100000 in
theorem zt_e10_5 : zt_eOK "ColumnVault$Sheet" (26, 0, 10, 4, 1061) := ⟨_, "ColumnVault$Sheet", rfl, by decide, (zt_in (j := 1) (k := 61) rfl rfl), Or.inl rfl⟩
set_option maxRecDepth 100000 in
theorem zt_e10_4 : zt_eOK "ColumnVault$Sheet" (22, 0, 10, 3, 1058) := ⟨_, "ColumnVault$Sheet", rfl, by decide, (zt_in (j := 1) (k := 58) rfl rfl), Or.inl rfl⟩
set_option maxRecDepth 100000 in
theorem zt_e10_3 : zt_eOK "ColumnVault$Sheet" (19, 0, 10, 2, 1057) := ⟨_, "ColumnVault$Sheet", rfl, by decide, (zt_in (j := 1) (k := 57) rfl rfl), Or.inl rfl⟩
set_option maxRecDepth 100000 in
theorem zt_e10_2 : zt_eOK "ColumnVault$Sheet" (15, 0, 10, 1, 1056) := ⟨_, "ColumnVault$Sheet", rfl, by decide, (zt_in (j := 1) (k := 56) rfl rfl), Or.inl rfl⟩
set_option maxRecDepth 100000 in
theorem zt_e10_1 : zt_eOK "ColumnVault$Sheet" (9, 0, 10, 0, 1055) := ⟨_, "ColumnVault$Sheet", rfl, by decide, (zt_in (j := 1) (k := 55) rfl rfl), Or.inl rfl⟩
set_option maxRecDepth 100000 in
theorem zt_e10_0 : zt_eOK "ColumnVault$Sheet" (3, 10, 0, 0, 1054) := (zt_in (j := 1) (k := 54) rfl rfl)
theorem zt_pl10_ok : ∀ e ∈ zt_pl10, zt_eOK "ColumnVault$Sheet" e := List.forall_mem_cons.mpr ⟨zt_e10_0, List.forall_mem_cons.mpr ⟨zt_e10_1, List.forall_mem_cons.mpr ⟨zt_e10_2, List.forall_mem_cons.mpr ⟨zt_e10_3, List.forall_mem_cons.mpr ⟨zt_e10_4, List.forall_mem_cons.mpr ⟨zt_e10_5, List.forall_mem_cons.mpr ⟨zt_e10_6, List.forall_mem_cons.mpr ⟨zt_e10_7, List.forall_mem_cons.mpr ⟨zt_e10_8, List.forall_mem_cons.mpr ⟨zt_e10_9, List.forall_mem_cons.mpr ⟨zt_e10_10, List.forall_mem_cons.mpr ⟨zt_e10_11, List.forall_mem_cons.mpr ⟨zt_e10_12, List.forall_mem_cons.mpr ⟨zt_e10_13, List.forall_mem_cons.mpr ⟨zt_e10_14, List.forall_mem_cons.mpr ⟨zt_e10_15, List.forall_mem_cons.mpr ⟨zt_e10_16, List.forall_mem_cons.mpr ⟨zt_e10_17, List.forall_mem_cons.mpr ⟨zt_e10_18, List.forall_mem_cons.mpr ⟨zt_e10_19, List.forall_mem_cons.mpr ⟨zt_e10_20, List.forall_mem_cons.mpr ⟨zt_e10_21, List.forall_mem_cons.mpr ⟨zt_e10_22, List.forall_mem_cons.mpr ⟨zt_e10_23, List.forall_mem_cons.mpr ⟨zt_e10_24, fun _ h => absurd h List.not_mem_nil⟩⟩⟩⟩⟩⟩⟩⟩⟩⟩⟩⟩⟩⟩⟩⟩⟩⟩⟩⟩⟩⟩⟩⟩⟩
set_option maxRecDepth 100000 in
theorem zt_lc10_ok : ∀ e ∈ zt_lc10, Cond.constantLong "ColumnVault$Sheet" e.1 e.2.1 ∈ zt_good := List.forall_mem_cons.mpr ⟨(zt_in (j := 2) (k := 65) rfl rfl), List.forall_mem_cons.mpr ⟨(zt_in (j := 4) (k := 86) rfl rfl), List.forall_mem_cons.mpr ⟨(zt_in (j := 4) (k := 87) rfl rfl), List.forall_mem_cons.mpr ⟨(zt_in (j := 4) (k := 177) rfl rfl), fun _ h => absurd h List.not_mem_nil⟩⟩⟩⟩
set_option maxRecDepth 100000 in
theorem zt_e11_14 : zt_eOK "ColumnVault$Tokens" (72, 16, 0, 2, 3104) := Or.inr (Or.inr ⟨rfl, (zt_in (j := 3) (k := 104) rfl rfl), (zt_in (j := 3) (k := 105) rfl rfl), (zt_in (j := 1) (k := 17) rfl rfl), (zt_in (j := 3) (k := 106) rfl rfl)⟩)
set_option maxRecDepth 100000 in
theorem zt_e11_13 : zt_eOK "ColumnVault$Tokens" (61, 6, 62, 0, 3097) := ⟨_, rfl, (zt_in (j := 3) (k := 97) rfl rfl)⟩
set_option maxRecDepth 100000 in
theorem zt_e11_12 : zt_eOK "ColumnVault$Tokens" (58, 6, 61, 0, 3092) := ⟨_, rfl, (zt_in (j := 3) (k := 92) rfl rfl)⟩
set_option maxRecDepth 100000 in
theorem zt_e11_11 : zt_eOK "ColumnVault$Tokens" (55, 5, 41, 0, 3091) := ⟨_, "ColumnVault", rfl, (zt_inN (j := 3) (k := 91) rfl rfl)⟩
set_option maxRecDepth 100000 in
theorem zt_e11_10 : zt_eOK "ColumnVault$Tokens" (51, 5, 60, 0, 3088) := ⟨_, "ColumnVault", rfl, (zt_inN (j := 3) (k := 88) rfl rfl)⟩
set_option maxRecDepth 100000 in
theorem zt_e11_9 : zt_eOK "ColumnVault$Tokens" (47, 6, 59, 0, 3084) := ⟨_, rfl, (zt_in (j := 3) (k := 84) rfl rfl)⟩
set_option maxRecDepth 100000 in
theorem zt_e11_8 : zt_eOK "ColumnVault$Tokens" (39, 16, 0, 0, 3108) := Or.inl ⟨rfl, (zt_in (j := 3) (k := 108) rfl rfl), (zt_in (j := 3) (k := 109) rfl rfl), (zt_in (j := 1) (k := 17) rfl rfl), (zt_in (j := 3) (k := 110) rfl rfl)⟩
set_option maxRecDepth 100000 in
theorem zt_e11_7 : zt_eOK "ColumnVault$Tokens" (35, 6, 58, 0, 3079) := ⟨_, rfl, (zt_in (j := 3) (k := 79) rfl rfl)⟩
set_option maxRecDepth 100000 in
theorem zt_e11_6 : zt_eOK "ColumnVault$Tokens" (31, 6, 57, 0, 3075) := ⟨_, rfl, (zt_in (j := 3) (k := 75) rfl rfl)⟩
set_option maxRecDepth 100000 in
theorem zt_e11_5 : zt_eOK "ColumnVault$Tokens" (26, 1, 4, 1, 1104) := ⟨_, "ColumnVault", rfl, by decide, (zt_inN (j := 1) (k := 104) rfl rfl)⟩
set_option maxRecDepth 100000 in
theorem zt_e11_4 : zt_eOK "ColumnVault$Tokens" (22, 0, 11, 3, 1120) := ⟨_, "ColumnVault$Tokens", rfl, by decide, (zt_in (j := 1) (k := 120) rfl rfl), Or.inl rfl⟩
set_option maxRecDepth 100000 in
theorem zt_e11_3 : zt_eOK "ColumnVault$Tokens" (18, 0, 11, 2, 1119) := ⟨_, "ColumnVault$Tokens", rfl, by decide, (zt_in (j := 1) (k := 119) rfl rfl), Or.inl rfl⟩
set_option maxRecDepth 100000 in
theorem zt_e11_2 : zt_eOK "ColumnVault$Tokens" (15, 0, 11, 1, 1118) := ⟨_, "ColumnVault$Tokens", rfl, by decide, (zt_in (j := 1) (k := 118) rfl rfl), Or.inl rfl⟩
set_option maxRecDepth 100000 in
theorem zt_e11_1 : zt_eOK "ColumnVault$Tokens" (9, 0, 11, 0, 1117) := ⟨_, "ColumnVault$Tokens", rfl, by decide, (zt_in (j := 1) (k := 117) rfl rfl), Or.inl rfl⟩
set_option maxRecDepth 100000 in
theorem zt_e11_0 : zt_eOK "ColumnVault$Tokens" (3, 10, 0, 0, 1116) := (zt_in (j := 1) (k := 116) rfl rfl)
theorem zt_pl11_ok : ∀ e ∈ zt_pl11, zt_eOK "ColumnVault$Tokens" e := List.forall_mem_cons.mpr ⟨zt_e11_0, List.forall_mem_cons.mpr ⟨zt_e11_1, List.forall_mem_cons.mpr ⟨zt_e11_2, List.forall_mem_cons.mpr ⟨zt_e11_3, List.forall_mem_cons.mpr ⟨zt_e11_4, List.forall_mem_cons.mpr ⟨zt_e11_5, List.forall_mem_cons.mpr ⟨zt_e11_6, List.forall_mem_cons.mpr ⟨zt_e11_7, List.forall_mem_cons.mpr ⟨zt_e11_8, List.forall_mem_cons.mpr ⟨zt_e11_9, List.forall_mem_cons.mpr ⟨zt_e11_10, List.forall_mem_cons.mpr ⟨zt_e11_11, List.forall_mem_cons.mpr ⟨zt_e11_12, List.forall_mem_cons.mpr ⟨zt_e11_13, List.forall_mem_cons.mpr ⟨zt_e11_14, fun _ h => absurd h List.not_mem_nil⟩⟩⟩⟩⟩⟩⟩⟩⟩⟩⟩⟩⟩⟩⟩
set_option maxRecDepth 100000 in
theorem zt_lc11_ok : ∀ e ∈ zt_lc11, Cond.constantLong "ColumnVault$Tokens" e.1 e.2.1 ∈ zt_good := List.forall_mem_cons.mpr ⟨(zt_in (j := 3) (k := 83) rfl rfl), List.forall_mem_cons.mpr ⟨(zt_in (j := 3) (k := 96) rfl rfl), List.forall_mem_cons.mpr ⟨(zt_in (j := 3) (k := 101) rfl rfl), List.forall_mem_cons.mpr ⟨(zt_in (j := 3) (k := 102) rfl rfl), List.forall_mem_cons.mpr ⟨(zt_in (j := 3) (k := 103) rfl rfl), List.forall_mem_cons.mpr ⟨(zt_in (j := 3) (k := 107) rfl rfl), fun _ h => absurd h List.not_mem_nil⟩⟩⟩⟩⟩⟩
set_option maxRecDepth 100000 in
theorem zt_e12_131 : zt_eOK "ColumnVault" (423, 1, 8, 4, 3129) := ⟨_, "ColumnVault", rfl, by decide, (zt_inN (j := 3) (k := 129) rfl rfl)⟩
set_option maxRecDepth 100000 in
theorem zt_e12_130 : zt_eOK "ColumnVault" (420, 1, 8, 6, 3133) := ⟨_, "ColumnVault", rfl, by decide, (zt_inN (j := 3) (k := 133) rfl rfl)⟩
set_option maxRecDepth 100000 in
theorem zt_e12_129 : zt_eOK "ColumnVault" (417, 1, 8, 2, 3126) := ⟨_, "ColumnVault", rfl, by decide, (zt_inN (j := 3) (k := 126) rfl rfl)⟩
set_option maxRecDepth 100000 in
theorem zt_e12_128 : zt_eOK "ColumnVault" (413, 1, 8, 5, 3131) := ⟨_, "ColumnVault", rfl, by decide, (zt_inN (j := 3) (k := 131) rfl rfl)⟩
set_option maxRecDepth 100000 in
theorem zt_e12_127 : zt_eOK "ColumnVault" (410, 1, 8, 0, 3122) := ⟨_, "ColumnVault", rfl, by decide, (zt_inN (j := 3) (k := 122) rfl rfl)⟩
set_option maxRecDepth 100000 in
theorem zt_e12_126 : zt_eOK "ColumnVault" (408, 13, 0, 0, 4110) := ⟨"no values", zt_ch_in (j := 4) (List.mem_of_getElem? (i := 110) rfl), fun h => absurd h (by decide)⟩
set_option maxRecDepth 100000 in
theorem zt_e12_125 : zt_eOK "ColumnVault" (404, 6, 107, 0, 4097) := ⟨_, rfl, (zt_in (j := 4) (k := 97) rfl rfl)⟩
set_option maxRecDepth 100000 in
theorem zt_e12_124 : zt_eOK "ColumnVault" (400, 6, 106, 0, 4092) := ⟨_, rfl, (zt_in (j := 4) (k := 92) rfl rfl)⟩
set_option maxRecDepth 100000 in
theorem zt_e12_123 : zt_eOK "ColumnVault" (398, 13, 0, 0, 4081) := ⟨"no such total", zt_ch_in (j := 4) (List.mem_of_getElem? (i := 81) rfl), fun h => absurd h (by decide)⟩
set_option maxRecDepth 100000 in
theorem zt_e12_122 : zt_eOK "ColumnVault" (395, 4, 41, 0, 2223) := ⟨_, rfl, (zt_in (j := 2) (k := 223) rfl rfl)⟩
set_option maxRecDepth 100000 in
theorem zt_e12_121 : zt_eOK "ColumnVault" (387, 13, 0, 0, 4011) := ⟨"columns of different kinds", zt_ch_in (j := 4) (List.mem_of_getElem? (i := 11) rfl), fun h => absurd h (by decide)⟩
set_option maxRecDepth 100000 in
theorem zt_e12_120 : zt_eOK "ColumnVault" (385, 13, 0, 0, 4199) := ⟨"a column of texts", zt_ch_in (j := 4) (List.mem_of_getElem? (i := 199) rfl), fun h => absurd h (by decide)⟩
set_option maxRecDepth 100000 in
theorem zt_e12_119 : zt_eOK "ColumnVault" (383, 13, 0, 0, 2226) := ⟨"no value of this kind", zt_ch_in (j := 2) (List.mem_of_getElem? (i := 226) rfl), fun h => absurd h (by decide)⟩
set_option maxRecDepth 100000 in
theorem zt_e12_118 : zt_eOK "ColumnVault" (380, 4, 40, 0, 2219) := ⟨_, rfl, (zt_in (j := 2) (k := 219) rfl rfl)⟩
set_option maxRecDepth 100000 in
theorem zt_e12_117 : zt_eOK "ColumnVault" (378, 13, 0, 0, 3019) := ⟨"no such place", zt_ch_in (j := 3) (List.mem_of_getElem? (i := 19) rfl), fun h => absurd h (by decide)⟩
set_option maxRecDepth 100000 in
theorem zt_e12_116 : zt_eOK "ColumnVault" (376, 13, 0, 0, 2214) := ⟨"no such row", zt_ch_in (j := 2) (List.mem_of_getElem? (i := 214) rfl), fun h => absurd h (by decide)⟩
set_option maxRecDepth 100000 in
theorem zt_e12_115 : zt_eOK "ColumnVault" (373, 6, 29, 0, 2213) := ⟨_, rfl, (zt_in (j := 2) (k := 213) rfl rfl)⟩
set_option maxRecDepth 100000 in
theorem zt_e12_114 : zt_eOK "ColumnVault" (371, 13, 0, 0, 2194) := ⟨"no such column", zt_ch_in (j := 2) (List.mem_of_getElem? (i := 194) rfl), fun h => absurd h (by decide)⟩
set_option maxRecDepth 100000 in
theorem zt_e12_113 : zt_eOK "ColumnVault" (368, 6, 28, 0, 2193) := ⟨_, rfl, (zt_in (j := 2) (k := 193) rfl rfl)⟩
set_option maxRecDepth 100000 in
theorem zt_e12_112 : zt_eOK "ColumnVault" (366, 13, 0, 0, 4048) := ⟨"no such group", zt_ch_in (j := 4) (List.mem_of_getElem? (i := 48) rfl), fun h => absurd h (by decide)⟩
set_option maxRecDepth 100000 in
theorem zt_e12_111 : zt_eOK "ColumnVault" (364, 13, 0, 0, 3238) := ⟨"the text has an error", zt_ch_in (j := 3) (List.mem_of_getElem? (i := 238) rfl), fun h => absurd h (by decide)⟩
set_option maxRecDepth 100000 in
theorem zt_e12_110 : zt_eOK "ColumnVault" (361, 8, 54, 0, 3039) := ⟨_, rfl, (zt_in (j := 3) (k := 39) rfl rfl)⟩
set_option maxRecDepth 100000 in
theorem zt_e12_109 : zt_eOK "ColumnVault" (359, 13, 0, 0, 2028) := ⟨"no such table", zt_ch_in (j := 2) (List.mem_of_getElem? (i := 28) rfl), fun h => absurd h (by decide)⟩
set_option maxRecDepth 100000 in
theorem zt_e12_108 : zt_eOK "ColumnVault" (356, 6, 11, 0, 1222) := ⟨_, rfl, (zt_in (j := 1) (k := 222) rfl rfl)⟩
set_option maxRecDepth 100000 in
theorem zt_e12_107 : zt_eOK "ColumnVault" (353, 6, 104, 0, 4082) := ⟨_, rfl, (zt_in (j := 4) (k := 82) rfl rfl)⟩
set_option maxRecDepth 100000 in
theorem zt_e12_106 : zt_eOK "ColumnVault" (350, 6, 246, 0, 7016) := ⟨_, rfl, (zt_in (j := 7) (k := 16) rfl rfl)⟩
set_option maxRecDepth 100000 in
theorem zt_e12_105 : zt_eOK "ColumnVault" (348, 13, 0, 0, 4187) := ⟨"no such comparison", zt_ch_in (j := 4) (List.mem_of_getElem? (i := 187) rfl), fun h => absurd h (by decide)⟩
set_option maxRecDepth 100000 in
theorem zt_e12_104 : zt_eOK "ColumnVault" (345, 6, 122, 0, 4182) := ⟨_, rfl, (zt_in (j := 4) (k := 182) rfl rfl)⟩
set_option maxRecDepth 100000 in
theorem zt_e12_103 : zt_eOK "ColumnVault" (342, 6, 121, 0, 4178) := ⟨_, rfl, (zt_in (j := 4) (k := 178) rfl rfl)⟩
set_option maxRecDepth 100000 in
theorem zt_e12_102 : zt_eOK "ColumnVault" (339, 6, 118, 0, 4165) := ⟨_, rfl, (zt_in (j := 4) (k := 165) rfl rfl)⟩
set_option maxRecDepth 100000 in
theorem zt_e12_101 : zt_eOK "ColumnVault" (337, 13, 0, 0, 4164) := ⟨"the columns are not of the same kinds", zt_ch_in (j := 4) (List.mem_of_getElem? (i := 164) rfl), fun h => absurd h (by decide)⟩
set_option maxRecDepth 100000 in
theorem zt_e12_100 : zt_eOK "ColumnVault" (333, 6, 117, 0, 4160) := ⟨_, rfl, (zt_in (j := 4) (k := 160) rfl rfl)⟩
set_option maxRecDepth 100000 in
theorem zt_e12_99 : zt_eOK "ColumnVault" (330, 4, 45, 0, 4138) := ⟨_, rfl, (zt_in (j := 4) (k := 138) rfl rfl)⟩
set_option maxRecDepth 100000 in
theorem zt_e12_98 : zt_eOK "ColumnVault" (328, 13, 0, 0, 4137) := ⟨"no value on that side", zt_ch_in (j := 4) (List.mem_of_getElem? (i := 137) rfl), fun h => absurd h (by decide)⟩
set_option maxRecDepth 100000 in
theorem zt_e12_97 : zt_eOK "ColumnVault" (324, 6, 111, 0, 4133) := ⟨_, rfl, (zt_in (j := 4) (k := 133) rfl rfl)⟩
set_option maxRecDepth 100000 in
theorem zt_e12_96 : zt_eOK "ColumnVault" (320, 6, 15, 0, 4124) := ⟨_, rfl, (zt_in (j := 4) (k := 124) rfl rfl)⟩
set_option maxRecDepth 100000 in
theorem zt_e12_95 : zt_eOK "ColumnVault" (315, 6, 14, 0, 4122) := ⟨_, rfl, (zt_in (j := 4) (k := 122) rfl rfl)⟩
set_option maxRecDepth 100000 in
theorem zt_e12_94 : zt_eOK "ColumnVault" (312, 13, 0, 0, 4121) := ⟨"the value is missing", zt_ch_in (j := 4) (List.mem_of_getElem? (i := 121) rfl), fun h => absurd h (by decide)⟩
set_option maxRecDepth 100000 in
theorem zt_e12_93 : zt_eOK "ColumnVault" (310, 2, 16, 999, 4101) := ⟨"java/util/NoSuchElementException", (zt_in (j := 4) (k := 101) rfl rfl), Or.inr rfl, Or.inl rfl⟩
set_option maxRecDepth 100000 in
theorem zt_e12_92 : zt_eOK "ColumnVault" (307, 6, 105, 0, 4088) := ⟨_, rfl, (zt_in (j := 4) (k := 88) rfl rfl)⟩
set_option maxRecDepth 100000 in
theorem zt_e12_91 : zt_eOK "ColumnVault" (304, 6, 126, 0, 4200) := ⟨_, rfl, (zt_in (j := 4) (k := 200) rfl rfl)⟩
set_option maxRecDepth 100000 in
theorem zt_e12_90 : zt_eOK "ColumnVault" (301, 4, 125, 0, 4196) := ⟨_, rfl, (zt_in (j := 4) (k := 196) rfl rfl)⟩
set_option maxRecDepth 100000 in
theorem zt_e12_89 : zt_eOK "ColumnVault" (298, 4, 34, 0, 2190) := ⟨_, rfl, (zt_in (j := 2) (k := 190) rfl rfl)⟩
set_option maxRecDepth 100000 in
theorem zt_e12_88 : zt_eOK "ColumnVault" (294, 4, 103, 0, 4078) := ⟨_, rfl, (zt_in (j := 4) (k := 78) rfl rfl)⟩
set_option maxRecDepth 100000 in
theorem zt_e12_87 : zt_eOK "ColumnVault" (292, 13, 0, 0, 4073) := ⟨"nothing known of that", zt_ch_in (j := 4) (List.mem_of_getElem? (i := 73) rfl), fun h => absurd h (by decide)⟩
set_option maxRecDepth 100000 in
theorem zt_e12_86 : zt_eOK "ColumnVault" (289, 6, 101, 0, 4069) := ⟨_, rfl, (zt_in (j := 4) (k := 69) rfl rfl)⟩
set_option maxRecDepth 100000 in
theorem zt_e12_85 : zt_eOK "ColumnVault" (286, 6, 100, 0, 4064) := ⟨_, rfl, (zt_in (j := 4) (k := 64) rfl rfl)⟩
set_option maxRecDepth 100000 in
theorem zt_e12_84 : zt_eOK "ColumnVault" (282, 1, 5, 0, 1157) := ⟨_, "ColumnVault", rfl, by decide, (zt_inN (j := 1) (k := 157) rfl rfl)⟩
set_option maxRecDepth 100000 in
theorem zt_e12_83 : zt_eOK "ColumnVault" (279, 6, 99, 0, 4060) := ⟨_, rfl, (zt_in (j := 4) (k := 60) rfl rfl)⟩
set_option maxRecDepth 100000 in
theorem zt_e12_82 : zt_eOK "ColumnVault" (275, 6, 97, 0, 4049) := ⟨_, rfl, (zt_in (j := 4) (k := 49) rfl rfl)⟩
set_option maxRecDepth 100000 in
theorem zt_e12_81 : zt_eOK "ColumnVault" (272, 6, 96, 0, 4044) := ⟨_, rfl, (zt_in (j := 4) (k := 44) rfl rfl)⟩
set_option maxRecDepth 100000 in
theorem zt_e12_80 : zt_eOK "ColumnVault" (271, 1, 5, 4, 1163) := ⟨_, "ColumnVault", rfl, by decide, (zt_inN (j := 1) (k := 163) rfl rfl)⟩
set_option maxRecDepth 100000 in
theorem zt_e12_79 : zt_eOK "ColumnVault" (269, 6, 250, 0, 8143) := ⟨_, rfl, (zt_in (j := 8) (k := 143) rfl rfl)⟩
set_option maxRecDepth 100000 in
theorem zt_e12_78 : zt_eOK "ColumnVault" (266, 6, 287, 0, 8104) := ⟨_, rfl, (zt_in (j := 8) (k := 104) rfl rfl)⟩
set_option maxRecDepth 100000 in
theorem zt_e12_77 : zt_eOK "ColumnVault" (263, 8, 286, 0, 8087) := ⟨_, rfl, (zt_in (j := 8) (k := 87) rfl rfl)⟩
set_option maxRecDepth 100000 in
theorem zt_e12_76 : zt_eOK "ColumnVault" (261, 2, 7, 999, 8085) := ⟨"ColumnVault$JoinWays", (zt_in (j := 8) (k := 85) rfl rfl), Or.inr rfl, Or.inl rfl⟩
set_option maxRecDepth 100000 in
theorem zt_e12_75 : zt_eOK "ColumnVault" (257, 6, 94, 0, 4036) := ⟨_, rfl, (zt_in (j := 4) (k := 36) rfl rfl)⟩
set_option maxRecDepth 100000 in
theorem zt_e12_74 : zt_eOK "ColumnVault" (255, 13, 0, 0, 4035) := ⟨"no such pair", zt_ch_in (j := 4) (List.mem_of_getElem? (i := 35) rfl), fun h => absurd h (by decide)⟩
set_option maxRecDepth 100000 in
theorem zt_e12_73 : zt_eOK "ColumnVault" (252, 1, 9, 2, 1139) := ⟨_, "ColumnVault", rfl, by decide, (zt_inN (j := 1) (k := 139) rfl rfl)⟩
set_option maxRecDepth 100000 in
theorem zt_e12_72 : zt_eOK "ColumnVault" (248, 6, 89, 0, 4013) := ⟨_, rfl, (zt_in (j := 4) (k := 13) rfl rfl)⟩
set_option maxRecDepth 100000 in
theorem zt_e12_71 : zt_eOK "ColumnVault" (246, 13, 0, 0, 4012) := ⟨"no such join", zt_ch_in (j := 4) (List.mem_of_getElem? (i := 12) rfl), fun h => absurd h (by decide)⟩
set_option maxRecDepth 100000 in
theorem zt_e12_70 : zt_eOK "ColumnVault" (242, 4, 88, 0, 4008) := ⟨_, rfl, (zt_in (j := 4) (k := 8) rfl rfl)⟩
set_option maxRecDepth 100000 in
theorem zt_e12_69 : zt_eOK "ColumnVault" (227, 6, 114, 0, 4147) := ⟨_, rfl, (zt_in (j := 4) (k := 147) rfl rfl)⟩
set_option maxRecDepth 100000 in
theorem zt_e12_68 : zt_eOK "ColumnVault" (225, 13, 0, 0, 4146) := ⟨"the text would be too long", zt_ch_in (j := 4) (List.mem_of_getElem? (i := 146) rfl), fun h => absurd h (by decide)⟩
set_option maxRecDepth 100000 in
theorem zt_e12_67 : zt_eOK "ColumnVault" (222, 4, 113, 0, 4143) := ⟨_, rfl, (zt_in (j := 4) (k := 143) rfl rfl)⟩
set_option maxRecDepth 100000 in
theorem zt_e12_66 : zt_eOK "ColumnVault" (219, 1, 4, 1, 1105) := ⟨_, "ColumnVault", rfl, by decide, (zt_inN (j := 1) (k := 105) rfl rfl)⟩
set_option maxRecDepth 100000 in
theorem zt_e12_65 : zt_eOK "ColumnVault" (216, 1, 3, 6, 3051) := ⟨_, "ColumnVault", rfl, by decide, (zt_inN (j := 3) (k := 51) rfl rfl)⟩
set_option maxRecDepth 100000 in
theorem zt_e12_64 : zt_eOK "ColumnVault" (213, 1, 3, 5, 3049) := ⟨_, "ColumnVault", rfl, by decide, (zt_inN (j := 3) (k := 49) rfl rfl)⟩
set_option maxRecDepth 100000 in
theorem zt_e12_63 : zt_eOK "ColumnVault" (208, 2, 3, 999, 3037) := ⟨"ColumnVault$FilterReader", (zt_in (j := 3) (k := 37) rfl rfl), Or.inr rfl, Or.inl rfl⟩
set_option maxRecDepth 100000 in
theorem zt_e12_62 : zt_eOK "ColumnVault" (207, 6, 55, 0, 3067) := ⟨_, rfl, (zt_in (j := 3) (k := 67) rfl rfl)⟩
set_option maxRecDepth 100000 in
theorem zt_e12_61 : zt_eOK "ColumnVault" (203, 6, 53, 0, 3033) := ⟨_, rfl, (zt_in (j := 3) (k := 33) rfl rfl)⟩
set_option maxRecDepth 100000 in
theorem zt_e12_60 : zt_eOK "ColumnVault" (199, 4, 277, 0, 7201) := ⟨_, rfl, (zt_in (j := 7) (k := 201) rfl rfl)⟩
set_option maxRecDepth 100000 in
theorem zt_e12_59 : zt_eOK "ColumnVault" (195, 6, 68, 0, 7200) := ⟨_, rfl, (zt_in (j := 7) (k := 200) rfl rfl)⟩
set_option maxRecDepth 100000 in
theorem zt_e12_58 : zt_eOK "ColumnVault" (188, 1, 8, 1, 3124) := ⟨_, "ColumnVault", rfl, by decide, (zt_inN (j := 3) (k := 124) rfl rfl)⟩
set_option maxRecDepth 100000 in
theorem zt_e12_57 : zt_eOK "ColumnVault" (184, 6, 52, 0, 3029) := ⟨_, rfl, (zt_in (j := 3) (k := 29) rfl rfl)⟩
set_option maxRecDepth 100000 in
theorem zt_e12_56 : zt_eOK "ColumnVault" (182, 13, 0, 0, 3028) := ⟨"no such way to choose", zt_ch_in (j := 3) (List.mem_of_getElem? (i := 28) rfl), fun h => absurd h (by decide)⟩
set_option maxRecDepth 100000 in
theorem zt_e12_55 : zt_eOK "ColumnVault" (178, 4, 90, 0, 6050) := ⟨_, rfl, (zt_in (j := 6) (k := 50) rfl rfl)⟩
set_option maxRecDepth 100000 in
theorem zt_e12_54 : zt_eOK "ColumnVault" (175, 6, 202, 0, 6060) := ⟨_, rfl, (zt_in (j := 6) (k := 60) rfl rfl)⟩
set_option maxRecDepth 100000 in
theorem zt_e12_53 : zt_eOK "ColumnVault" (172, 6, 50, 0, 3020) := ⟨_, rfl, (zt_in (j := 3) (k := 20) rfl rfl)⟩
set_option maxRecDepth 100000 in
theorem zt_e12_52 : zt_eOK "ColumnVault" (169, 4, 49, 0, 3016) := ⟨_, rfl, (zt_in (j := 3) (k := 16) rfl rfl)⟩
set_option maxRecDepth 100000 in
theorem zt_e12_51 : zt_eOK "ColumnVault" (165, 6, 207, 0, 6080) := ⟨_, rfl, (zt_in (j := 6) (k := 80) rfl rfl)⟩
set_option maxRecDepth 100000 in
theorem zt_e12_50 : zt_eOK "ColumnVault" (161, 6, 205, 0, 6073) := ⟨_, rfl, (zt_in (j := 6) (k := 73) rfl rfl)⟩
set_option maxRecDepth 100000 in
theorem zt_e12_49 : zt_eOK "ColumnVault" (158, 6, 24, 0, 2145) := ⟨_, rfl, (zt_in (j := 2) (k := 145) rfl rfl)⟩
set_option maxRecDepth 100000 in
theorem zt_e12_48 : zt_eOK "ColumnVault" (155, 13, 0, 0, 3011) := ⟨"no such version", zt_ch_in (j := 3) (List.mem_of_getElem? (i := 11) rfl), fun h => absurd h (by decide)⟩
set_option maxRecDepth 100000 in
theorem zt_e12_47 : zt_eOK "ColumnVault" (153, 2, 13, 999, 1226) := ⟨"java/lang/IndexOutOfBoundsException", (zt_in (j := 1) (k := 226) rfl rfl), Or.inr rfl, Or.inl rfl⟩
set_option maxRecDepth 100000 in
theorem zt_e12_46 : zt_eOK "ColumnVault" (149, 6, 47, 0, 3007) := ⟨_, rfl, (zt_in (j := 3) (k := 7) rfl rfl)⟩
set_option maxRecDepth 100000 in
theorem zt_e12_45 : zt_eOK "ColumnVault" (146, 1, 6, 1, 1090) := ⟨_, "ColumnVault", rfl, by decide, (zt_inN (j := 1) (k := 90) rfl rfl)⟩
set_option maxRecDepth 100000 in
theorem zt_e12_44 : zt_eOK "ColumnVault" (144, 13, 0, 0, 2088) := ⟨"no such size", zt_ch_in (j := 2) (List.mem_of_getElem? (i := 88) rfl), fun h => absurd h (by decide)⟩
set_option maxRecDepth 100000 in
theorem zt_e12_43 : zt_eOK "ColumnVault" (141, 6, 13, 0, 2061) := ⟨_, rfl, (zt_in (j := 2) (k := 61) rfl rfl)⟩
set_option maxRecDepth 100000 in
theorem zt_e12_42 : zt_eOK "ColumnVault" (137, 4, 12, 0, 2055) := ⟨_, rfl, (zt_in (j := 2) (k := 55) rfl rfl)⟩
set_option maxRecDepth 100000 in
theorem zt_e12_41 : zt_eOK "ColumnVault" (133, 1, 10, 5, 1072) := ⟨_, "ColumnVault", rfl, by decide, (zt_inN (j := 1) (k := 72) rfl rfl)⟩
set_option maxRecDepth 100000 in
theorem zt_e12_40 : zt_eOK "ColumnVault" (130, 6, 44, 0, 2235) := ⟨_, rfl, (zt_in (j := 2) (k := 235) rfl rfl)⟩
set_option maxRecDepth 100000 in
theorem zt_e12_39 : zt_eOK "ColumnVault" (126, 6, 194, 0, 6029) := ⟨_, rfl, (zt_in (j := 6) (k := 29) rfl rfl)⟩
set_option maxRecDepth 100000 in
theorem zt_e12_38 : zt_eOK "ColumnVault" (122, 4, 42, 0, 2228) := ⟨_, rfl, (zt_in (j := 2) (k := 228) rfl rfl)⟩
set_option maxRecDepth 100000 in
theorem zt_e12_37 : zt_eOK "ColumnVault" (118, 6, 16, 0, 2227) := ⟨_, rfl, (zt_in (j := 2) (k := 227) rfl rfl)⟩
set_option maxRecDepth 100000 in
theorem zt_e12_36 : zt_eOK "ColumnVault" (114, 4, 39, 0, 2216) := ⟨_, rfl, (zt_in (j := 2) (k := 216) rfl rfl)⟩
set_option maxRecDepth 100000 in
theorem zt_e12_35 : zt_eOK "ColumnVault" (108, 4, 38, 0, 2210) := ⟨_, rfl, (zt_in (j := 2) (k := 210) rfl rfl)⟩
set_option maxRecDepth 100000 in
theorem zt_e12_34 : zt_eOK "ColumnVault" (104, 6, 27, 0, 2205) := ⟨_, rfl, (zt_in (j := 2) (k := 205) rfl rfl)⟩
set_option maxRecDepth 100000 in
theorem zt_e12_33 : zt_eOK "ColumnVault" (102, 13, 0, 0, 2204) := ⟨"no such numbers", zt_ch_in (j := 2) (List.mem_of_getElem? (i := 204) rfl), fun h => absurd h (by decide)⟩
set_option maxRecDepth 100000 in
theorem zt_e12_32 : zt_eOK "ColumnVault" (98, 4, 36, 0, 2199) := ⟨_, rfl, (zt_in (j := 2) (k := 199) rfl rfl)⟩
set_option maxRecDepth 100000 in
theorem zt_e12_31 : zt_eOK "ColumnVault" (95, 6, 35, 0, 2195) := ⟨_, rfl, (zt_in (j := 2) (k := 195) rfl rfl)⟩
set_option maxRecDepth 100000 in
theorem zt_e12_30 : zt_eOK "ColumnVault" (91, 6, 33, 0, 2186) := ⟨_, rfl, (zt_in (j := 2) (k := 186) rfl rfl)⟩
set_option maxRecDepth 100000 in
theorem zt_e12_29 : zt_eOK "ColumnVault" (87, 6, 31, 0, 2178) := ⟨_, rfl, (zt_in (j := 2) (k := 178) rfl rfl)⟩
set_option maxRecDepth 100000 in
theorem zt_e12_28 : zt_eOK "ColumnVault" (85, 13, 0, 0, 2177) := ⟨"too many rows", zt_ch_in (j := 2) (List.mem_of_getElem? (i := 177) rfl), fun h => absurd h (by decide)⟩
set_option maxRecDepth 100000 in
theorem zt_e12_27 : zt_eOK "ColumnVault" (82, 1, 10, 4, 1064) := ⟨_, "ColumnVault", rfl, by decide, (zt_inN (j := 1) (k := 64) rfl rfl)⟩
set_option maxRecDepth 100000 in
theorem zt_e12_26 : zt_eOK "ColumnVault" (78, 6, 26, 0, 2157) := ⟨_, rfl, (zt_in (j := 2) (k := 157) rfl rfl)⟩
set_option maxRecDepth 100000 in
theorem zt_e12_25 : zt_eOK "ColumnVault" (75, 6, 23, 0, 2141) := ⟨_, rfl, (zt_in (j := 2) (k := 141) rfl rfl)⟩
set_option maxRecDepth 100000 in
theorem zt_e12_24 : zt_eOK "ColumnVault" (72, 13, 0, 0, 2134) := ⟨"too many columns", zt_ch_in (j := 2) (List.mem_of_getElem? (i := 134) rfl), fun h => absurd h (by decide)⟩
set_option maxRecDepth 100000 in
theorem zt_e12_23 : zt_eOK "ColumnVault" (70, 2, 15, 999, 2125) := ⟨"java/lang/IllegalStateException", (zt_in (j := 2) (k := 125) rfl rfl), Or.inr rfl, Or.inl rfl⟩
set_option maxRecDepth 100000 in
theorem zt_e12_22 : zt_eOK "ColumnVault" (64, 1, 10, 3, 1060) := ⟨_, "ColumnVault", rfl, by decide, (zt_inN (j := 1) (k := 60) rfl rfl)⟩
set_option maxRecDepth 100000 in
theorem zt_e12_21 : zt_eOK "ColumnVault" (59, 13, 0, 0, 2124) := ⟨"no such kind", zt_ch_in (j := 2) (List.mem_of_getElem? (i := 124) rfl), fun h => absurd h (by decide)⟩
set_option maxRecDepth 100000 in
theorem zt_e12_20 : zt_eOK "ColumnVault" (57, 2, 14, 999, 2079) := ⟨"java/lang/IllegalArgumentException", (zt_in (j := 2) (k := 79) rfl rfl), Or.inr rfl, Or.inl rfl⟩
set_option maxRecDepth 100000 in
theorem zt_e12_19 : zt_eOK "ColumnVault" (53, 6, 10, 0, 1218) := ⟨_, rfl, (zt_in (j := 1) (k := 218) rfl rfl)⟩
set_option maxRecDepth 100000 in
theorem zt_e12_18 : zt_eOK "ColumnVault" (49, 0, 12, 5, 1200) := ⟨_, "ColumnVault", rfl, by decide, (zt_in (j := 1) (k := 200) rfl rfl), Or.inl rfl⟩
set_option maxRecDepth 100000 in
theorem zt_e12_17 : zt_eOK "ColumnVault" (48, 9, 8, 0, 1177) := ⟨_, "ColumnVault", rfl, (zt_inN (j := 1) (k := 177) rfl rfl)⟩
set_option maxRecDepth 100000 in
theorem zt_e12_16 : zt_eOK "ColumnVault" (46, 2, 2, 999, 1175) := ⟨"ColumnVault$Checks", (zt_in (j := 1) (k := 175) rfl rfl), Or.inr rfl, Or.inl rfl⟩
set_option maxRecDepth 100000 in
theorem zt_e12_15 : zt_eOK "ColumnVault" (42, 0, 12, 4, 1199) := ⟨_, "ColumnVault", rfl, by decide, (zt_in (j := 1) (k := 199) rfl rfl), Or.inl rfl⟩
set_option maxRecDepth 100000 in
theorem zt_e12_14 : zt_eOK "ColumnVault" (41, 9, 7, 0, 1149) := ⟨_, "ColumnVault", rfl, (zt_inN (j := 1) (k := 149) rfl rfl)⟩
set_option maxRecDepth 100000 in
theorem zt_e12_13 : zt_eOK "ColumnVault" (39, 2, 5, 999, 1147) := ⟨"ColumnVault$Groups", (zt_in (j := 1) (k := 147) rfl rfl), Or.inr rfl, Or.inl rfl⟩
set_option maxRecDepth 100000 in
theorem zt_e12_12 : zt_eOK "ColumnVault" (35, 0, 12, 3, 1198) := ⟨_, "ColumnVault", rfl, by decide, (zt_in (j := 1) (k := 198) rfl rfl), Or.inl rfl⟩
set_option maxRecDepth 100000 in
theorem zt_e12_11 : zt_eOK "ColumnVault" (34, 9, 6, 0, 1132) := ⟨_, "ColumnVault", rfl, (zt_inN (j := 1) (k := 132) rfl rfl)⟩
set_option maxRecDepth 100000 in
theorem zt_e12_10 : zt_eOK "ColumnVault" (32, 2, 9, 999, 1130) := ⟨"ColumnVault$Pairs", (zt_in (j := 1) (k := 130) rfl rfl), Or.inr rfl, Or.inl rfl⟩
set_option maxRecDepth 100000 in
theorem zt_e12_9 : zt_eOK "ColumnVault" (28, 0, 12, 2, 1197) := ⟨_, "ColumnVault", rfl, by decide, (zt_in (j := 1) (k := 197) rfl rfl), Or.inl rfl⟩
set_option maxRecDepth 100000 in
theorem zt_e12_8 : zt_eOK "ColumnVault" (27, 9, 5, 0, 1113) := ⟨_, "ColumnVault", rfl, (zt_inN (j := 1) (k := 113) rfl rfl)⟩
set_option maxRecDepth 100000 in
theorem zt_e12_7 : zt_eOK "ColumnVault" (25, 2, 11, 999, 1111) := ⟨"ColumnVault$Tokens", (zt_in (j := 1) (k := 111) rfl rfl), Or.inr rfl, Or.inl rfl⟩
set_option maxRecDepth 100000 in
theorem zt_e12_6 : zt_eOK "ColumnVault" (21, 0, 12, 1, 1196) := ⟨_, "ColumnVault", rfl, by decide, (zt_in (j := 1) (k := 196) rfl rfl), Or.inl rfl⟩
set_option maxRecDepth 100000 in
theorem zt_e12_5 : zt_eOK "ColumnVault" (20, 9, 4, 0, 1098) := ⟨_, "ColumnVault", rfl, (zt_inN (j := 1) (k := 98) rfl rfl)⟩
set_option maxRecDepth 100000 in
theorem zt_e12_4 : zt_eOK "ColumnVault" (18, 2, 4, 999, 1096) := ⟨"ColumnVault$FilterText", (zt_in (j := 1) (k := 96) rfl rfl), Or.inr rfl, Or.inl rfl⟩
set_option maxRecDepth 100000 in
theorem zt_e12_3 : zt_eOK "ColumnVault" (14, 0, 12, 0, 1195) := ⟨_, "ColumnVault", rfl, by decide, (zt_in (j := 1) (k := 195) rfl rfl), Or.inl rfl⟩
set_option maxRecDepth 100000 in
theorem zt_e12_2 : zt_eOK "ColumnVault" (13, 8, 2, 0, 1044) := ⟨_, rfl, (zt_in (j := 1) (k := 44) rfl rfl)⟩
set_option maxRecDepth 100000 in
theorem zt_e12_1 : zt_eOK "ColumnVault" (11, 2, 6, 999, 1042) := ⟨"ColumnVault$History", (zt_in (j := 1) (k := 42) rfl rfl), Or.inr rfl, Or.inl rfl⟩
set_option maxRecDepth 100000 in
theorem zt_e12_0 : zt_eOK "ColumnVault" (5, 10, 0, 0, 1039) := (zt_in (j := 1) (k := 39) rfl rfl)
theorem zt_pl12_ok : ∀ e ∈ zt_pl12, zt_eOK "ColumnVault" e := List.forall_mem_cons.mpr ⟨zt_e12_0, List.forall_mem_cons.mpr ⟨zt_e12_1, List.forall_mem_cons.mpr ⟨zt_e12_2, List.forall_mem_cons.mpr ⟨zt_e12_3, List.forall_mem_cons.mpr ⟨zt_e12_4, List.forall_mem_cons.mpr ⟨zt_e12_5, List.forall_mem_cons.mpr ⟨zt_e12_6, List.forall_mem_cons.mpr ⟨zt_e12_7, List.forall_mem_cons.mpr ⟨zt_e12_8, List.forall_mem_cons.mpr ⟨zt_e12_9, List.forall_mem_cons.mpr ⟨zt_e12_10, List.forall_mem_cons.mpr ⟨zt_e12_11, List.forall_mem_cons.mpr ⟨zt_e12_12, List.forall_mem_cons.mpr ⟨zt_e12_13, List.forall_mem_cons.mpr ⟨zt_e12_14, List.forall_mem_cons.mpr ⟨zt_e12_15, List.forall_mem_cons.mpr ⟨zt_e12_16, List.forall_mem_cons.mpr ⟨zt_e12_17, List.forall_mem_cons.mpr ⟨zt_e12_18, List.forall_mem_cons.mpr ⟨zt_e12_19, List.forall_mem_cons.mpr ⟨zt_e12_20, List.forall_mem_cons.mpr ⟨zt_e12_21, List.forall_mem_cons.mpr ⟨zt_e12_22, List.forall_mem_cons.mpr ⟨zt_e12_23, List.forall_mem_cons.mpr ⟨zt_e12_24, List.forall_mem_cons.mpr ⟨zt_e12_25, List.forall_mem_cons.mpr ⟨zt_e12_26, List.forall_mem_cons.mpr ⟨zt_e12_27, List.forall_mem_cons.mpr ⟨zt_e12_28, List.forall_mem_cons.mpr ⟨zt_e12_29, List.forall_mem_cons.mpr ⟨zt_e12_30, List.forall_mem_cons.mpr ⟨zt_e12_31, List.forall_mem_cons.mpr ⟨zt_e12_32, List.forall_mem_cons.mpr ⟨zt_e12_33, List.forall_mem_cons.mpr ⟨zt_e12_34, List.forall_mem_cons.mpr ⟨zt_e12_35, List.forall_mem_cons.mpr ⟨zt_e12_36, List.forall_mem_cons.mpr ⟨zt_e12_37, List.forall_mem_cons.mpr ⟨zt_e12_38, List.forall_mem_cons.mpr ⟨zt_e12_39, List.forall_mem_cons.mpr ⟨zt_e12_40, List.forall_mem_cons.mpr ⟨zt_e12_41, List.forall_mem_cons.mpr ⟨zt_e12_42, List.forall_mem_cons.mpr ⟨zt_e12_43, List.forall_mem_cons.mpr ⟨zt_e12_44, List.forall_mem_cons.mpr ⟨zt_e12_45, List.forall_mem_cons.mpr ⟨zt_e12_46, List.forall_mem_cons.mpr ⟨zt_e12_47, List.forall_mem_cons.mpr ⟨zt_e12_48, List.forall_mem_cons.mpr ⟨zt_e12_49, List.forall_mem_cons.mpr ⟨zt_e12_50, List.forall_mem_cons.mpr ⟨zt_e12_51, List.forall_mem_cons.mpr ⟨zt_e12_52, List.forall_mem_cons.mpr ⟨zt_e12_53, List.forall_mem_cons.mpr ⟨zt_e12_54, List.forall_mem_cons.mpr ⟨zt_e12_55, List.forall_mem_cons.mpr ⟨zt_e12_56, List.forall_mem_cons.mpr ⟨zt_e12_57, List.forall_mem_cons.mpr ⟨zt_e12_58, List.forall_mem_cons.mpr ⟨zt_e12_59, List.forall_mem_cons.mpr ⟨zt_e12_60, List.forall_mem_cons.mpr ⟨zt_e12_61, List.forall_mem_cons.mpr ⟨zt_e12_62, List.forall_mem_cons.mpr ⟨zt_e12_63, List.forall_mem_cons.mpr ⟨zt_e12_64, List.forall_mem_cons.mpr ⟨zt_e12_65, List.forall_mem_cons.mpr ⟨zt_e12_66, List.forall_mem_cons.mpr ⟨zt_e12_67, List.forall_mem_cons.mpr ⟨zt_e12_68, List.forall_mem_cons.mpr ⟨zt_e12_69, List.forall_mem_cons.mpr ⟨zt_e12_70, List.forall_mem_cons.mpr ⟨zt_e12_71, List.forall_mem_cons.mpr ⟨zt_e12_72, List.forall_mem_cons.mpr ⟨zt_e12_73, List.forall_mem_cons.mpr ⟨zt_e12_74, List.forall_mem_cons.mpr ⟨zt_e12_75, List.forall_mem_cons.mpr ⟨zt_e12_76, List.forall_mem_cons.mpr ⟨zt_e12_77, List.forall_mem_cons.mpr ⟨zt_e12_78, List.forall_mem_cons.mpr ⟨zt_e12_79, List.forall_mem_cons.mpr ⟨zt_e12_80, List.forall_mem_cons.mpr ⟨zt_e12_81, List.forall_mem_cons.mpr ⟨zt_e12_82, List.forall_mem_cons.mpr ⟨zt_e12_83, List.forall_mem_cons.mpr ⟨zt_e12_84, List.forall_mem_cons.mpr ⟨zt_e12_85, List.forall_mem_cons.mpr ⟨zt_e12_86, List.forall_mem_cons.mpr ⟨zt_e12_87, List.forall_mem_cons.mpr ⟨zt_e12_88, List.forall_mem_cons.mpr ⟨zt_e12_89, List.forall_mem_cons.mpr ⟨zt_e12_90, List.forall_mem_cons.mpr ⟨zt_e12_91, List.forall_mem_cons.mpr ⟨zt_e12_92, List.forall_mem_cons.mpr ⟨zt_e12_93, List.forall_mem_cons.mpr ⟨zt_e12_94, List.forall_mem_cons.mpr ⟨zt_e12_95, List.forall_mem_cons.mpr ⟨zt_e12_96, List.forall_mem_cons.mpr ⟨zt_e12_97, List.forall_mem_cons.mpr ⟨zt_e12_98, List.forall_mem_cons.mpr ⟨zt_e12_99, List.forall_mem_cons.mpr ⟨zt_e12_100, List.forall_mem_cons.mpr ⟨zt_e12_101, List.forall_mem_cons.mpr ⟨zt_e12_102, List.forall_mem_cons.mpr ⟨zt_e12_103, List.forall_mem_cons.mpr ⟨zt_e12_104, List.forall_mem_cons.mpr ⟨zt_e12_105, List.forall_mem_cons.mpr ⟨zt_e12_106, List.forall_mem_cons.mpr ⟨zt_e12_107, List.forall_mem_cons.mpr ⟨zt_e12_108, List.forall_mem_cons.mpr ⟨zt_e12_109, List.forall_mem_cons.mpr ⟨zt_e12_110, List.forall_mem_cons.mpr ⟨zt_e12_111, List.forall_mem_cons.mpr ⟨zt_e12_112, List.forall_mem_cons.mpr ⟨zt_e12_113, List.forall_mem_cons.mpr ⟨zt_e12_114, List.forall_mem_cons.mpr ⟨zt_e12_115, List.forall_mem_cons.mpr ⟨zt_e12_116, List.forall_mem_cons.mpr ⟨zt_e12_117, List.forall_mem_cons.mpr ⟨zt_e12_118, List.forall_mem_cons.mpr ⟨zt_e12_119, List.forall_mem_cons.mpr ⟨zt_e12_120, List.forall_mem_cons.mpr ⟨zt_e12_121, List.forall_mem_cons.mpr ⟨zt_e12_122, List.forall_mem_cons.mpr ⟨zt_e12_123, List.forall_mem_cons.mpr ⟨zt_e12_124, List.forall_mem_cons.mpr ⟨zt_e12_125, List.forall_mem_cons.mpr ⟨zt_e12_126, List.forall_mem_cons.mpr ⟨zt_e12_127, List.forall_mem_cons.mpr ⟨zt_e12_128, List.forall_mem_cons.mpr ⟨zt_e12_129, List.forall_mem_cons.mpr ⟨zt_e12_130, List.forall_mem_cons.mpr ⟨zt_e12_131, fun _ h => absurd h List.not_mem_nil⟩⟩⟩⟩⟩⟩⟩⟩⟩⟩⟩⟩⟩⟩⟩⟩⟩⟩⟩⟩⟩⟩⟩⟩⟩⟩⟩⟩⟩⟩⟩⟩⟩⟩⟩⟩⟩⟩⟩⟩⟩⟩⟩⟩⟩⟩⟩⟩⟩⟩⟩⟩⟩⟩⟩⟩⟩⟩⟩⟩⟩⟩⟩⟩⟩⟩⟩⟩⟩⟩⟩⟩⟩⟩⟩⟩⟩⟩⟩⟩⟩⟩⟩⟩⟩⟩⟩⟩⟩⟩⟩⟩⟩⟩⟩⟩⟩⟩⟩⟩⟩⟩⟩⟩⟩⟩⟩⟩⟩⟩⟩⟩⟩⟩⟩⟩⟩⟩⟩⟩⟩⟩⟩⟩⟩⟩⟩⟩⟩⟩⟩⟩
set_option maxRecDepth 100000 in
theorem zt_lc12_ok : ∀ e ∈ zt_lc12, Cond.constantLong "ColumnVault" e.1 e.2.1 ∈ zt_good := List.forall_mem_cons.mpr ⟨(zt_in (j := 2) (k := 202) rfl rfl), List.forall_mem_cons.mpr ⟨(zt_in (j := 2) (k := 203) rfl rfl), List.forall_mem_cons.mpr ⟨(zt_in (j := 2) (k := 215) rfl rfl), List.forall_mem_cons.mpr ⟨(zt_in (j := 2) (k := 222) rfl rfl), List.forall_mem_cons.mpr ⟨(zt_in (j := 3) (k := 239) rfl rfl), List.forall_mem_cons.mpr ⟨(zt_in (j := 4) (k := 123) rfl rfl), fun _ h => absurd h List.not_mem_nil⟩⟩⟩⟩⟩⟩
theorem zt_pl13_ok : ∀ e ∈ zt_pl13, zt_eOK "java/lang/IndexOutOfBoundsException" e := fun _ h => absurd h List.not_mem_nil
set_option maxRecDepth 100000 in
theorem zt_lc13_ok : ∀ e ∈ zt_lc13, Cond.constantLong "java/lang/IndexOutOfBoundsException" e.1 e.2.1 ∈ zt_good := fun _ h => absurd h List.not_mem_nil
theorem zt_pl14_ok : ∀ e ∈ zt_pl14, zt_eOK "java/lang/IllegalArgumentException" e := fun _ h => absurd h List.not_mem_nil
set_option maxRecDepth 100000 in
theorem zt_lc14_ok : ∀ e ∈ zt_lc14, Cond.constantLong "java/lang/IllegalArgumentException" e.1 e.2.1 ∈ zt_good := fun _ h => absurd h List.not_mem_nil
theorem zt_pl15_ok : ∀ e ∈ zt_pl15, zt_eOK "java/lang/IllegalStateException" e := fun _ h => absurd h List.not_mem_nil
set_option maxRecDepth 100000 in
theorem zt_lc15_ok : ∀ e ∈ zt_lc15, Cond.constantLong "java/lang/IllegalStateException" e.1 e.2.1 ∈ zt_good := fun _ h => absurd h List.not_mem_nil
theorem zt_pl16_ok : ∀ e ∈ zt_pl16, zt_eOK "java/util/NoSuchElementException" e := fun _ h => absurd h List.not_mem_nil
set_option maxRecDepth 100000 in
theorem zt_lc16_ok : ∀ e ∈ zt_lc16, Cond.constantLong "java/util/NoSuchElementException" e.1 e.2.1 ∈ zt_good := fun _ h => absurd h List.not_mem_nil
set_option maxRecDepth 100000 in
theorem zt_e17_135 : zt_eOK "ColumnVaultLaw" (443, 6, 18, 0, 2099) := ⟨_, rfl, (zt_in (j := 2) (k := 99) rfl rfl)⟩
set_option maxRecDepth 100000 in
theorem zt_e17_134 : zt_eOK "ColumnVaultLaw" (440, 4, 302, 0, 8170) := ⟨_, rfl, (zt_in (j := 8) (k := 170) rfl rfl)⟩
set_option maxRecDepth 100000 in
theorem zt_e17_133 : zt_eOK "ColumnVaultLaw" (436, 4, 300, 0, 8163) := ⟨_, rfl, (zt_in (j := 8) (k := 163) rfl rfl)⟩
set_option maxRecDepth 100000 in
theorem zt_e17_132 : zt_eOK "ColumnVaultLaw" (433, 4, 293, 0, 8136) := ⟨_, rfl, (zt_in (j := 8) (k := 136) rfl rfl)⟩
set_option maxRecDepth 100000 in
theorem zt_e17_131 : zt_eOK "ColumnVaultLaw" (429, 4, 298, 0, 8157) := ⟨_, rfl, (zt_in (j := 8) (k := 157) rfl rfl)⟩
set_option maxRecDepth 100000 in
theorem zt_e17_130 : zt_eOK "ColumnVaultLaw" (425, 4, 299, 0, 8160) := ⟨_, rfl, (zt_in (j := 8) (k := 160) rfl rfl)⟩
set_option maxRecDepth 100000 in
theorem zt_e17_129 : zt_eOK "ColumnVaultLaw" (422, 4, 296, 0, 8149) := ⟨_, rfl, (zt_in (j := 8) (k := 149) rfl rfl)⟩
set_option maxRecDepth 100000 in
theorem zt_e17_128 : zt_eOK "ColumnVaultLaw" (418, 4, 284, 0, 8078) := ⟨_, rfl, (zt_in (j := 8) (k := 78) rfl rfl)⟩
set_option maxRecDepth 100000 in
theorem zt_e17_127 : zt_eOK "ColumnVaultLaw" (415, 4, 283, 0, 8048) := ⟨_, rfl, (zt_in (j := 8) (k := 48) rfl rfl)⟩
set_option maxRecDepth 100000 in
theorem zt_e17_126 : zt_eOK "ColumnVaultLaw" (412, 4, 256, 0, 7077) := ⟨_, rfl, (zt_in (j := 7) (k := 77) rfl rfl)⟩
set_option maxRecDepth 100000 in
theorem zt_e17_125 : zt_eOK "ColumnVaultLaw" (409, 4, 203, 0, 6066) := ⟨_, rfl, (zt_in (j := 6) (k := 66) rfl rfl)⟩
set_option maxRecDepth 100000 in
theorem zt_e17_124 : zt_eOK "ColumnVaultLaw" (405, 4, 196, 0, 6037) := ⟨_, rfl, (zt_in (j := 6) (k := 37) rfl rfl)⟩
set_option maxRecDepth 100000 in
theorem zt_e17_123 : zt_eOK "ColumnVaultLaw" (401, 4, 127, 0, 4208) := ⟨_, rfl, (zt_in (j := 4) (k := 208) rfl rfl)⟩
set_option maxRecDepth 100000 in
theorem zt_e17_122 : zt_eOK "ColumnVaultLaw" (400, 8, 1, 0, 1036) := ⟨_, rfl, (zt_in (j := 1) (k := 36) rfl rfl)⟩
set_option maxRecDepth 100000 in
theorem zt_e17_121 : zt_eOK "ColumnVaultLaw" (396, 4, 19, 0, 2103) := ⟨_, rfl, (zt_in (j := 2) (k := 103) rfl rfl)⟩
set_option maxRecDepth 100000 in
theorem zt_e17_120 : zt_eOK "ColumnVaultLaw" (380, 4, 301, 0, 8166) := ⟨_, rfl, (zt_in (j := 8) (k := 166) rfl rfl)⟩
set_option maxRecDepth 100000 in
theorem zt_e17_119 : zt_eOK "ColumnVaultLaw" (375, 6, 297, 0, 8152) := ⟨_, rfl, (zt_in (j := 8) (k := 152) rfl rfl)⟩
set_option maxRecDepth 100000 in
theorem zt_e17_118 : zt_eOK "ColumnVaultLaw" (371, 6, 295, 0, 8145) := ⟨_, rfl, (zt_in (j := 8) (k := 145) rfl rfl)⟩
set_option maxRecDepth 100000 in
theorem zt_e17_117 : zt_eOK "ColumnVaultLaw" (368, 6, 294, 0, 8139) := ⟨_, rfl, (zt_in (j := 8) (k := 139) rfl rfl)⟩
set_option maxRecDepth 100000 in
theorem zt_e17_116 : zt_eOK "ColumnVaultLaw" (365, 6, 285, 0, 8081) := ⟨_, rfl, (zt_in (j := 8) (k := 81) rfl rfl)⟩
set_option maxRecDepth 100000 in
theorem zt_e17_115 : zt_eOK "ColumnVaultLaw" (363, 13, 682, 1, 8077) := ⟨"#0 = five", zt_ch_in (j := 8) (List.mem_of_getElem? (i := 77) rfl), fun _ => List.mem_of_getElem? (i := 41) rfl⟩
set_option maxRecDepth 100000 in
theorem zt_e17_114 : zt_eOK "ColumnVaultLaw" (361, 13, 680, 1, 8076) := ⟨"#1 = 5", zt_ch_in (j := 8) (List.mem_of_getElem? (i := 76) rfl), fun _ => List.mem_of_getElem? (i := 40) rfl⟩
set_option maxRecDepth 100000 in
theorem zt_e17_113 : zt_eOK "ColumnVaultLaw" (359, 13, 678, 1, 8075) := ⟨"=1", zt_ch_in (j := 8) (List.mem_of_getElem? (i := 75) rfl), fun _ => List.mem_of_getElem? (i := 39) rfl⟩
set_option maxRecDepth 100000 in
theorem zt_e17_112 : zt_eOK "ColumnVaultLaw" (357, 13, 676, 1, 8074) := ⟨"5-", zt_ch_in (j := 8) (List.mem_of_getElem? (i := 74) rfl), fun _ => List.mem_of_getElem? (i := 38) rfl⟩
set_option maxRecDepth 100000 in
theorem zt_e17_111 : zt_eOK "ColumnVaultLaw" (355, 13, 674, 1, 8073) := ⟨"abcdefgh", zt_ch_in (j := 8) (List.mem_of_getElem? (i := 73) rfl), fun _ => List.mem_of_getElem? (i := 37) rfl⟩
set_option maxRecDepth 100000 in
theorem zt_e17_110 : zt_eOK "ColumnVaultLaw" (353, 13, 672, 1, 8072) := ⟨"(#0=1", zt_ch_in (j := 8) (List.mem_of_getElem? (i := 72) rfl), fun _ => List.mem_of_getElem? (i := 36) rfl⟩
set_option maxRecDepth 100000 in
theorem zt_e17_109 : zt_eOK "ColumnVaultLaw" (351, 13, 670, 1, 8071) := ⟨"!#0=1", zt_ch_in (j := 8) (List.mem_of_getElem? (i := 71) rfl), fun _ => List.mem_of_getElem? (i := 35) rfl⟩
