set_option maxRecDepth 100000 in
theorem zt_e0_6 : zt_eOK "java/lang/String" (47, 4, 187, 0, 5227) := ⟨_, rfl, (zt_in (j := 5) (k := 227) rfl rfl)⟩
set_option maxRecDepth 100000 in
theorem zt_e0_5 : zt_eOK "java/lang/String" (38, 14, 0, 0, 5199) := ⟨_, rfl, (zt_in (j := 5) (k := 199) rfl rfl)⟩
set_option maxRecDepth 100000 in
theorem zt_e0_4 : zt_eOK "java/lang/String" (23, 0, 0, 3, 5233) := ⟨_, "java/lang/String", rfl, by decide, (zt_in (j := 5) (k := 233) rfl rfl), Or.inl rfl⟩
set_option maxRecDepth 100000 in
theorem zt_e0_3 : zt_eOK "java/lang/String" (19, 0, 0, 2, 5232) := ⟨_, "java/lang/String", rfl, by decide, (zt_in (j := 5) (k := 232) rfl rfl), Or.inl rfl⟩
set_option maxRecDepth 100000 in
theorem zt_e0_2 : zt_eOK "java/lang/String" (15, 0, 0, 1, 5231) := ⟨_, "java/lang/String", rfl, by decide, (zt_in (j := 5) (k := 231) rfl rfl), Or.inl rfl⟩
set_option maxRecDepth 100000 in
theorem zt_e0_1 : zt_eOK "java/lang/String" (9, 0, 0, 0, 5230) := ⟨_, "java/lang/String", rfl, by decide, (zt_in (j := 5) (k := 230) rfl rfl), Or.inl rfl⟩
set_option maxRecDepth 100000 in
theorem zt_e0_0 : zt_eOK "java/lang/String" (1, 10, 0, 0, 5115) := (zt_in (j := 5) (k := 115) rfl rfl)
theorem zt_pl0_ok : ∀ e ∈ zt_pl0, zt_eOK "java/lang/String" e := List.forall_mem_cons.mpr ⟨zt_e0_0, List.forall_mem_cons.mpr ⟨zt_e0_1, List.forall_mem_cons.mpr ⟨zt_e0_2, List.forall_mem_cons.mpr ⟨zt_e0_3, List.forall_mem_cons.mpr ⟨zt_e0_4, List.forall_mem_cons.mpr ⟨zt_e0_5, List.forall_mem_cons.mpr ⟨zt_e0_6, List.forall_mem_cons.mpr ⟨zt_e0_7, List.forall_mem_cons.mpr ⟨zt_e0_8, List.forall_mem_cons.mpr ⟨zt_e0_9, List.forall_mem_cons.mpr ⟨zt_e0_10, List.forall_mem_cons.mpr ⟨zt_e0_11, List.forall_mem_cons.mpr ⟨zt_e0_12, List.forall_mem_cons.mpr ⟨zt_e0_13, List.forall_mem_cons.mpr ⟨zt_e0_14, List.forall_mem_cons.mpr ⟨zt_e0_15, List.forall_mem_cons.mpr ⟨zt_e0_16, List.forall_mem_cons.mpr ⟨zt_e0_17, List.forall_mem_cons.mpr ⟨zt_e0_18, List.forall_mem_cons.mpr ⟨zt_e0_19, List.forall_mem_cons.mpr ⟨zt_e0_20, List.forall_mem_cons.mpr ⟨zt_e0_21, List.forall_mem_cons.mpr ⟨zt_e0_22, List.forall_mem_cons.mpr ⟨zt_e0_23, List.forall_mem_cons.mpr ⟨zt_e0_24, List.forall_mem_cons.mpr ⟨zt_e0_25, List.forall_mem_cons.mpr ⟨zt_e0_26, List.forall_mem_cons.mpr ⟨zt_e0_27, List.forall_mem_cons.mpr ⟨zt_e0_28, List.forall_mem_cons.mpr ⟨zt_e0_29, fun _ h => absurd h List.not_mem_nil⟩⟩⟩⟩⟩⟩⟩⟩⟩⟩⟩⟩⟩⟩⟩⟩⟩⟩⟩⟩⟩⟩⟩⟩⟩⟩⟩⟩⟩⟩
set_option maxRecDepth 100000 in
theorem zt_lc0_ok : ∀ e ∈ zt_lc0, Cond.constantLong "java/lang/String" e.1 e.2.1 ∈ zt_good := fun _ h => absurd h List.not_mem_nil
set_option maxRecDepth 100000 in
theorem zt_e1_12 : zt_eOK "java/lang/StringBuilder" (343, 21, 162, 0, 5127) := ⟨_, rfl, (zt_in (j := 5) (k := 127) rfl rfl), (zt_in (j := 5) (k := 123) rfl rfl), (zt_in (j := 5) (k := 11) rfl rfl), by decide⟩
set_option maxRecDepth 100000 in
theorem zt_e1_11 : zt_eOK "java/lang/StringBuilder" (329, 21, 272, 0, 7178) := ⟨_, rfl, (zt_in (j := 7) (k := 178) rfl rfl), (zt_in (j := 8) (k := 194) rfl rfl), (zt_in (j := 5) (k := 11) rfl rfl), by decide⟩
set_option maxRecDepth 100000 in
theorem zt_e1_10 : zt_eOK "java/lang/StringBuilder" (137, 8, 158, 0, 5109) := ⟨_, rfl, (zt_in (j := 5) (k := 109) rfl rfl)⟩
set_option maxRecDepth 100000 in
theorem zt_e1_9 : zt_eOK "java/lang/StringBuilder" (101, 21, 211, 0, 6095) := ⟨_, rfl, (zt_in (j := 6) (k := 95) rfl rfl), (zt_in (j := 8) (k := 189) rfl rfl), (zt_in (j := 5) (k := 11) rfl rfl), by decide⟩
set_option maxRecDepth 100000 in
theorem zt_e1_8 : zt_eOK "java/lang/StringBuilder" (56, 21, 264, 0, 7121) := ⟨_, rfl, (zt_in (j := 7) (k := 121) rfl rfl), (zt_in (j := 8) (k := 192) rfl rfl), (zt_in (j := 5) (k := 11) rfl rfl), by decide⟩
set_option maxRecDepth 100000 in
theorem zt_e1_7 : zt_eOK "java/lang/StringBuilder" (53, 21, 167, 0, 5146) := ⟨_, rfl, (zt_in (j := 5) (k := 146) rfl rfl), (zt_in (j := 8) (k := 184) rfl rfl), (zt_in (j := 5) (k := 11) rfl rfl), by decide⟩
set_option maxRecDepth 100000 in
theorem zt_e1_6 : zt_eOK "java/lang/StringBuilder" (50, 21, 136, 0, 5016) := ⟨_, rfl, (zt_in (j := 5) (k := 16) rfl rfl), (zt_in (j := 8) (k := 180) rfl rfl), (zt_in (j := 5) (k := 11) rfl rfl), by decide⟩
set_option maxRecDepth 100000 in
theorem zt_e1_5 : zt_eOK "java/lang/StringBuilder" (29, 21, 176, 0, 5181) := ⟨_, rfl, (zt_in (j := 5) (k := 181) rfl rfl), (zt_in (j := 8) (k := 185) rfl rfl), (zt_in (j := 5) (k := 11) rfl rfl), by decide⟩
set_option maxRecDepth 100000 in
theorem zt_e1_4 : zt_eOK "java/lang/StringBuilder" (23, 6, 175, 0, 7092) := ⟨_, rfl, (zt_in (j := 7) (k := 92) rfl rfl)⟩
set_option maxRecDepth 100000 in
theorem zt_e1_3 : zt_eOK "java/lang/StringBuilder" (18, 2, 0, 6, 5107) := ⟨"java/lang/String", (zt_in (j := 5) (k := 107) rfl rfl), Or.inr rfl, Or.inr rfl⟩
set_option maxRecDepth 100000 in
theorem zt_e1_2 : zt_eOK "java/lang/StringBuilder" (17, 4, 280, 0, 7212) := ⟨_, rfl, (zt_in (j := 7) (k := 212) rfl rfl)⟩
set_option maxRecDepth 100000 in
theorem zt_e1_1 : zt_eOK "java/lang/StringBuilder" (7, 8, 258, 0, 7085) := ⟨_, rfl, (zt_in (j := 7) (k := 85) rfl rfl)⟩
set_option maxRecDepth 100000 in
theorem zt_e1_0 : zt_eOK "java/lang/StringBuilder" (1, 8, 132, 0, 4226) := ⟨_, rfl, (zt_in (j := 4) (k := 226) rfl rfl)⟩
theorem zt_pl1_ok : ∀ e ∈ zt_pl1, zt_eOK "java/lang/StringBuilder" e := List.forall_mem_cons.mpr ⟨zt_e1_0, List.forall_mem_cons.mpr ⟨zt_e1_1, List.forall_mem_cons.mpr ⟨zt_e1_2, List.forall_mem_cons.mpr ⟨zt_e1_3, List.forall_mem_cons.mpr ⟨zt_e1_4, List.forall_mem_cons.mpr ⟨zt_e1_5, List.forall_mem_cons.mpr ⟨zt_e1_6, List.forall_mem_cons.mpr ⟨zt_e1_7, List.forall_mem_cons.mpr ⟨zt_e1_8, List.forall_mem_cons.mpr ⟨zt_e1_9, List.forall_mem_cons.mpr ⟨zt_e1_10, List.forall_mem_cons.mpr ⟨zt_e1_11, List.forall_mem_cons.mpr ⟨zt_e1_12, fun _ h => absurd h List.not_mem_nil⟩⟩⟩⟩⟩⟩⟩⟩⟩⟩⟩⟩⟩
set_option maxRecDepth 100000 in
theorem zt_lc1_ok : ∀ e ∈ zt_lc1, Cond.constantLong "java/lang/StringBuilder" e.1 e.2.1 ∈ zt_good := fun _ h => absurd h List.not_mem_nil
set_option maxRecDepth 100000 in
theorem zt_e2_33 : zt_eOK "ColumnVault$Checks" (128, 6, 255, 0, 7073) := ⟨_, rfl, (zt_in (j := 7) (k := 73) rfl rfl)⟩
set_option maxRecDepth 100000 in
theorem zt_e2_32 : zt_eOK "ColumnVault$Checks" (120, 6, 15, 0, 7070) := ⟨_, rfl, (zt_in (j := 7) (k := 70) rfl rfl)⟩
set_option maxRecDepth 100000 in
theorem zt_e2_31 : zt_eOK "ColumnVault$Checks" (117, 6, 98, 0, 7069) := ⟨_, rfl, (zt_in (j := 7) (k := 69) rfl rfl)⟩
set_option maxRecDepth 100000 in
theorem zt_e2_30 : zt_eOK "ColumnVault$Checks" (112, 1, 5, 0, 1156) := ⟨_, "ColumnVault", rfl, by decide, (zt_inN (j := 1) (k := 156) rfl rfl)⟩
set_option maxRecDepth 100000 in
theorem zt_e2_29 : zt_eOK "ColumnVault$Checks" (108, 6, 105, 0, 7063) := ⟨_, rfl, (zt_in (j := 7) (k := 63) rfl rfl)⟩
set_option maxRecDepth 100000 in
theorem zt_e2_28 : zt_eOK "ColumnVault$Checks" (105, 6, 253, 0, 7059) := ⟨_, rfl, (zt_in (j := 7) (k := 59) rfl rfl)⟩
set_option maxRecDepth 100000 in
theorem zt_e2_27 : zt_eOK "ColumnVault$Checks" (102, 6, 35, 0, 7058) := ⟨_, rfl, (zt_in (j := 7) (k := 58) rfl rfl)⟩
set_option maxRecDepth 100000 in
theorem zt_e2_26 : zt_eOK "ColumnVault$Checks" (98, 1, 10, 5, 1071) := ⟨_, "ColumnVault", rfl, by decide, (zt_inN (j := 1) (k := 71) rfl rfl)⟩
set_option maxRecDepth 100000 in
theorem zt_e2_25 : zt_eOK "ColumnVault$Checks" (92, 4, 12, 0, 7057) := ⟨_, rfl, (zt_in (j := 7) (k := 57) rfl rfl)⟩
set_option maxRecDepth 100000 in
theorem zt_e2_24 : zt_eOK "ColumnVault$Checks" (89, 6, 99, 0, 7056) := ⟨_, rfl, (zt_in (j := 7) (k := 56) rfl rfl)⟩
set_option maxRecDepth 100000 in
theorem zt_e2_23 : zt_eOK "ColumnVault$Checks" (86, 1, 5, 4, 1162) := ⟨_, "ColumnVault", rfl, by decide, (zt_inN (j := 1) (k := 162) rfl rfl)⟩
set_option maxRecDepth 100000 in
theorem zt_e2_22 : zt_eOK "ColumnVault$Checks" (82, 6, 250, 0, 7040) := ⟨_, rfl, (zt_in (j := 7) (k := 40) rfl rfl)⟩
set_option maxRecDepth 100000 in
theorem zt_e2_21 : zt_eOK "ColumnVault$Checks" (78, 5, 206, 0, 7033) := ⟨_, "ColumnVault", rfl, (zt_inN (j := 7) (k := 33) rfl rfl)⟩
set_option maxRecDepth 100000 in
theorem zt_e2_20 : zt_eOK "ColumnVault$Checks" (75, 6, 202, 0, 7032) := ⟨_, rfl, (zt_in (j := 7) (k := 32) rfl rfl)⟩
set_option maxRecDepth 100000 in
theorem zt_e2_19 : zt_eOK "ColumnVault$Checks" (71, 6, 16, 0, 7031) := ⟨_, rfl, (zt_in (j := 7) (k := 31) rfl rfl)⟩
set_option maxRecDepth 100000 in
theorem zt_e2_18 : zt_eOK "ColumnVault$Checks" (67, 6, 68, 0, 7035) := ⟨_, rfl, (zt_in (j := 7) (k := 35) rfl rfl)⟩
set_option maxRecDepth 100000 in
theorem zt_e2_17 : zt_eOK "ColumnVault$Checks" (63, 6, 126, 0, 7034) := ⟨_, rfl, (zt_in (j := 7) (k := 34) rfl rfl)⟩
set_option maxRecDepth 100000 in
theorem zt_e2_16 : zt_eOK "ColumnVault$Checks" (59, 6, 248, 0, 7027) := ⟨_, rfl, (zt_in (j := 7) (k := 27) rfl rfl)⟩
set_option maxRecDepth 100000 in
theorem zt_e2_15 : zt_eOK "ColumnVault$Checks" (55, 6, 50, 0, 7026) := ⟨_, rfl, (zt_in (j := 7) (k := 26) rfl rfl)⟩
set_option maxRecDepth 100000 in
theorem zt_e2_14 : zt_eOK "ColumnVault$Checks" (52, 1, 10, 4, 1065) := ⟨_, "ColumnVault", rfl, by decide, (zt_inN (j := 1) (k := 65) rfl rfl)⟩
set_option maxRecDepth 100000 in
theorem zt_e2_13 : zt_eOK "ColumnVault$Checks" (48, 6, 205, 0, 7025) := ⟨_, rfl, (zt_in (j := 7) (k := 25) rfl rfl)⟩
set_option maxRecDepth 100000 in
theorem zt_e2_12 : zt_eOK "ColumnVault$Checks" (44, 6, 25, 0, 7024) := ⟨_, rfl, (zt_in (j := 7) (k := 24) rfl rfl)⟩
set_option maxRecDepth 100000 in
theorem zt_e2_11 : zt_eOK "ColumnVault$Checks" (41, 6, 254, 0, 7064) := ⟨_, rfl, (zt_in (j := 7) (k := 64) rfl rfl)⟩
set_option maxRecDepth 100000 in
theorem zt_e2_10 : zt_eOK "ColumnVault$Checks" (37, 6, 249, 0, 7036) := ⟨_, rfl, (zt_in (j := 7) (k := 36) rfl rfl)⟩
set_option maxRecDepth 100000 in
theorem zt_e2_9 : zt_eOK "ColumnVault$Checks" (33, 6, 247, 0, 7020) := ⟨_, rfl, (zt_in (j := 7) (k := 20) rfl rfl)⟩
set_option maxRecDepth 100000 in
theorem zt_e2_8 : zt_eOK "ColumnVault$Checks" (29, 1, 10, 3, 1059) := ⟨_, "ColumnVault", rfl, by decide, (zt_inN (j := 1) (k := 59) rfl rfl)⟩
set_option maxRecDepth 100000 in
theorem zt_e2_7 : zt_eOK "ColumnVault$Checks" (25, 0, 2, 2, 1187) := ⟨_, "ColumnVault$Checks", rfl, by decide, (zt_in (j := 1) (k := 187) rfl rfl), Or.inl rfl⟩
set_option maxRecDepth 100000 in
theorem zt_e2_6 : zt_eOK "ColumnVault$Checks" (21, 0, 2, 1, 1186) := ⟨_, "ColumnVault$Checks", rfl, by decide, (zt_in (j := 1) (k := 186) rfl rfl), Or.inl rfl⟩
set_option maxRecDepth 100000 in
theorem zt_e2_5 : zt_eOK "ColumnVault$Checks" (20, 9, 7, 0, 1184) := ⟨_, "ColumnVault", rfl, (zt_inN (j := 1) (k := 184) rfl rfl)⟩
set_option maxRecDepth 100000 in
theorem zt_e2_4 : zt_eOK "ColumnVault$Checks" (18, 2, 5, 999, 1183) := ⟨"ColumnVault$Groups", (zt_in (j := 1) (k := 183) rfl rfl), Or.inr rfl, Or.inl rfl⟩
set_option maxRecDepth 100000 in
theorem zt_e2_3 : zt_eOK "ColumnVault$Checks" (12, 0, 2, 0, 1185) := ⟨_, "ColumnVault$Checks", rfl, by decide, (zt_in (j := 1) (k := 185) rfl rfl), Or.inl rfl⟩
set_option maxRecDepth 100000 in
theorem zt_e2_2 : zt_eOK "ColumnVault$Checks" (11, 9, 3, 0, 1182) := ⟨_, "ColumnVault", rfl, (zt_inN (j := 1) (k := 182) rfl rfl)⟩
set_option maxRecDepth 100000 in
theorem zt_e2_1 : zt_eOK "ColumnVault$Checks" (9, 2, 10, 0, 1181) := ⟨"ColumnVault$Sheet", (zt_in (j := 1) (k := 181) rfl rfl), Or.inr rfl, Or.inr rfl⟩
set_option maxRecDepth 100000 in
theorem zt_e2_0 : zt_eOK "ColumnVault$Checks" (3, 10, 0, 0, 1180) := (zt_in (j := 1) (k := 180) rfl rfl)
theorem zt_pl2_ok : ∀ e ∈ zt_pl2, zt_eOK "ColumnVault$Checks" e := List.forall_mem_cons.mpr ⟨zt_e2_0, List.forall_mem_cons.mpr ⟨zt_e2_1, List.forall_mem_cons.mpr ⟨zt_e2_2, List.forall_mem_cons.mpr ⟨zt_e2_3, List.forall_mem_cons.mpr ⟨zt_e2_4, List.forall_mem_cons.mpr ⟨zt_e2_5, List.forall_mem_cons.mpr ⟨zt_e2_6, List.forall_mem_cons.mpr ⟨zt_e2_7, List.forall_mem_cons.mpr ⟨zt_e2_8, List.forall_mem_cons.mpr ⟨zt_e2_9, List.forall_mem_cons.mpr ⟨zt_e2_10, List.forall_mem_cons.mpr ⟨zt_e2_11, List.forall_mem_cons.mpr ⟨zt_e2_12, List.forall_mem_cons.mpr ⟨zt_e2_13, List.forall_mem_cons.mpr ⟨zt_e2_14, List.forall_mem_cons.mpr ⟨zt_e2_15, List.forall_mem_cons.mpr ⟨zt_e2_16, List.forall_mem_cons.mpr ⟨zt_e2_17, List.forall_mem_cons.mpr ⟨zt_e2_18, List.forall_mem_cons.mpr ⟨zt_e2_19, List.forall_mem_cons.mpr ⟨zt_e2_20, List.forall_mem_cons.mpr ⟨zt_e2_21, List.forall_mem_cons.mpr ⟨zt_e2_22, List.forall_mem_cons.mpr ⟨zt_e2_23, List.forall_mem_cons.mpr ⟨zt_e2_24, List.forall_mem_cons.mpr ⟨zt_e2_25, List.forall_mem_cons.mpr ⟨zt_e2_26, List.forall_mem_cons.mpr ⟨zt_e2_27, List.forall_mem_cons.mpr ⟨zt_e2_28, List.forall_mem_cons.mpr ⟨zt_e2_29, List.forall_mem_cons.mpr ⟨zt_e2_30, List.forall_mem_cons.mpr ⟨zt_e2_31, List.forall_mem_cons.mpr ⟨zt_e2_32, List.forall_mem_cons.mpr ⟨zt_e2_33, fun _ h => absurd h List.not_mem_nil⟩⟩⟩⟩⟩⟩⟩⟩⟩⟩⟩⟩⟩⟩⟩⟩⟩⟩⟩⟩⟩⟩⟩⟩⟩⟩⟩⟩⟩⟩⟩⟩⟩⟩
set_option maxRecDepth 100000 in
theorem zt_lc2_ok : ∀ e ∈ zt_lc2, Cond.constantLong "ColumnVault$Checks" e.1 e.2.1 ∈ zt_good := List.forall_mem_cons.mpr ⟨(zt_in (j := 7) (k := 68) rfl rfl), List.forall_mem_cons.mpr ⟨(zt_in (j := 7) (k := 71) rfl rfl), List.forall_mem_cons.mpr ⟨(zt_in (j := 7) (k := 72) rfl rfl), fun _ h => absurd h List.not_mem_nil⟩⟩⟩
set_option maxRecDepth 100000 in
theorem zt_e3_32 : zt_eOK "ColumnVault$FilterReader" (137, 6, 15, 0, 3218) := ⟨_, rfl, (zt_in (j := 3) (k := 218) rfl rfl)⟩
set_option maxRecDepth 100000 in
theorem zt_e3_31 : zt_eOK "ColumnVault$FilterReader" (131, 5, 42, 0, 3212) := ⟨_, "ColumnVault", rfl, (zt_inN (j := 3) (k := 212) rfl rfl)⟩
set_option maxRecDepth 100000 in
theorem zt_e3_30 : zt_eOK "ColumnVault$FilterReader" (126, 6, 80, 0, 3207) := ⟨_, rfl, (zt_in (j := 3) (k := 207) rfl rfl)⟩
set_option maxRecDepth 100000 in
theorem zt_e3_29 : zt_eOK "ColumnVault$FilterReader" (122, 6, 79, 0, 3203) := ⟨_, rfl, (zt_in (j := 3) (k := 203) rfl rfl)⟩
set_option maxRecDepth 100000 in
theorem zt_e3_28 : zt_eOK "ColumnVault$FilterReader" (110, 6, 81, 0, 3213) := ⟨_, rfl, (zt_in (j := 3) (k := 213) rfl rfl)⟩
set_option maxRecDepth 100000 in
theorem zt_e3_27 : zt_eOK "ColumnVault$FilterReader" (106, 6, 78, 0, 3199) := ⟨_, rfl, (zt_in (j := 3) (k := 199) rfl rfl)⟩
set_option maxRecDepth 100000 in
theorem zt_e3_26 : zt_eOK "ColumnVault$FilterReader" (103, 6, 35, 0, 3198) := ⟨_, rfl, (zt_in (j := 3) (k := 198) rfl rfl)⟩
set_option maxRecDepth 100000 in
theorem zt_e3_25 : zt_eOK "ColumnVault$FilterReader" (100, 6, 77, 0, 3190) := ⟨_, rfl, (zt_in (j := 3) (k := 190) rfl rfl)⟩
set_option maxRecDepth 100000 in
theorem zt_e3_24 : zt_eOK "ColumnVault$FilterReader" (97, 6, 28, 0, 3189) := ⟨_, rfl, (zt_in (j := 3) (k := 189) rfl rfl)⟩
set_option maxRecDepth 100000 in
theorem zt_e3_23 : zt_eOK "ColumnVault$FilterReader" (93, 6, 76, 0, 3185) := ⟨_, rfl, (zt_in (j := 3) (k := 185) rfl rfl)⟩
set_option maxRecDepth 100000 in
theorem zt_e3_22 : zt_eOK "ColumnVault$FilterReader" (89, 6, 82, 0, 3220) := ⟨_, rfl, (zt_in (j := 3) (k := 220) rfl rfl)⟩
set_option maxRecDepth 100000 in
theorem zt_e3_21 : zt_eOK "ColumnVault$FilterReader" (85, 6, 75, 0, 3181) := ⟨_, rfl, (zt_in (j := 3) (k := 181) rfl rfl)⟩
set_option maxRecDepth 100000 in
theorem zt_e3_20 : zt_eOK "ColumnVault$FilterReader" (82, 6, 74, 0, 3177) := ⟨_, rfl, (zt_in (j := 3) (k := 177) rfl rfl)⟩
set_option maxRecDepth 100000 in
theorem zt_e3_19 : zt_eOK "ColumnVault$FilterReader" (79, 6, 69, 0, 3157) := ⟨_, rfl, (zt_in (j := 3) (k := 157) rfl rfl)⟩
set_option maxRecDepth 100000 in
theorem zt_e3_18 : zt_eOK "ColumnVault$FilterReader" (73, 6, 68, 0, 3153) := ⟨_, rfl, (zt_in (j := 3) (k := 153) rfl rfl)⟩
set_option maxRecDepth 100000 in
theorem zt_e3_17 : zt_eOK "ColumnVault$FilterReader" (69, 6, 70, 0, 3161) := ⟨_, rfl, (zt_in (j := 3) (k := 161) rfl rfl)⟩
set_option maxRecDepth 100000 in
theorem zt_e3_16 : zt_eOK "ColumnVault$FilterReader" (65, 6, 83, 0, 3225) := ⟨_, rfl, (zt_in (j := 3) (k := 225) rfl rfl)⟩
set_option maxRecDepth 100000 in
theorem zt_e3_15 : zt_eOK "ColumnVault$FilterReader" (62, 6, 67, 0, 3149) := ⟨_, rfl, (zt_in (j := 3) (k := 149) rfl rfl)⟩
set_option maxRecDepth 100000 in
theorem zt_e3_14 : zt_eOK "ColumnVault$FilterReader" (59, 8, 66, 0, 3117) := ⟨_, rfl, (zt_in (j := 3) (k := 117) rfl rfl)⟩
set_option maxRecDepth 100000 in
theorem zt_e3_13 : zt_eOK "ColumnVault$FilterReader" (57, 2, 8, 999, 3115) := ⟨"ColumnVault$Node", (zt_in (j := 3) (k := 115) rfl rfl), Or.inr rfl, Or.inl rfl⟩
set_option maxRecDepth 100000 in
theorem zt_e3_12 : zt_eOK "ColumnVault$FilterReader" (53, 6, 73, 0, 3173) := ⟨_, rfl, (zt_in (j := 3) (k := 173) rfl rfl)⟩
set_option maxRecDepth 100000 in
theorem zt_e3_11 : zt_eOK "ColumnVault$FilterReader" (50, 6, 72, 0, 3169) := ⟨_, rfl, (zt_in (j := 3) (k := 169) rfl rfl)⟩
set_option maxRecDepth 100000 in
theorem zt_e3_10 : zt_eOK "ColumnVault$FilterReader" (46, 6, 71, 0, 3165) := ⟨_, rfl, (zt_in (j := 3) (k := 165) rfl rfl)⟩
set_option maxRecDepth 100000 in
theorem zt_e3_9 : zt_eOK "ColumnVault$FilterReader" (42, 6, 65, 0, 3111) := ⟨_, rfl, (zt_in (j := 3) (k := 111) rfl rfl)⟩
set_option maxRecDepth 100000 in
theorem zt_e3_8 : zt_eOK "ColumnVault$FilterReader" (36, 6, 56, 0, 3071) := ⟨_, rfl, (zt_in (j := 3) (k := 71) rfl rfl)⟩
set_option maxRecDepth 100000 in
theorem zt_e3_7 : zt_eOK "ColumnVault$FilterReader" (32, 0, 3, 1, 3044) := ⟨_, "ColumnVault$FilterReader", rfl, by decide, (zt_in (j := 3) (k := 44) rfl rfl), Or.inl rfl⟩
set_option maxRecDepth 100000 in
theorem zt_e3_6 : zt_eOK "ColumnVault$FilterReader" (28, 0, 3, 0, 3043) := ⟨_, "ColumnVault$FilterReader", rfl, by decide, (zt_in (j := 3) (k := 43) rfl rfl), Or.inl rfl⟩
set_option maxRecDepth 100000 in
theorem zt_e3_5 : zt_eOK "ColumnVault$FilterReader" (25, 0, 3, 6, 3050) := ⟨_, "ColumnVault$FilterReader", rfl, by decide, (zt_in (j := 3) (k := 50) rfl rfl), Or.inl rfl⟩
set_option maxRecDepth 100000 in
theorem zt_e3_4 : zt_eOK "ColumnVault$FilterReader" (22, 0, 3, 5, 3048) := ⟨_, "ColumnVault$FilterReader", rfl, by decide, (zt_in (j := 3) (k := 48) rfl rfl), Or.inl rfl⟩
set_option maxRecDepth 100000 in
theorem zt_e3_3 : zt_eOK "ColumnVault$FilterReader" (19, 0, 3, 4, 3047) := ⟨_, "ColumnVault$FilterReader", rfl, by decide, (zt_in (j := 3) (k := 47) rfl rfl), Or.inl rfl⟩
set_option maxRecDepth 100000 in
theorem zt_e3_2 : zt_eOK "ColumnVault$FilterReader" (15, 0, 3, 3, 3046) := ⟨_, "ColumnVault$FilterReader", rfl, by decide, (zt_in (j := 3) (k := 46) rfl rfl), Or.inl rfl⟩
set_option maxRecDepth 100000 in
theorem zt_e3_1 : zt_eOK "ColumnVault$FilterReader" (9, 0, 3, 2, 3045) := ⟨_, "ColumnVault$FilterReader", rfl, by decide, (zt_in (j := 3) (k := 45) rfl rfl), Or.inl rfl⟩
set_option maxRecDepth 100000 in
theorem zt_e3_0 : zt_eOK "ColumnVault$FilterReader" (3, 10, 0, 0, 3042) := (zt_in (j := 3) (k := 42) rfl rfl)
theorem zt_pl3_ok : ∀ e ∈ zt_pl3, zt_eOK "ColumnVault$FilterReader" e := List.forall_mem_cons.mpr ⟨zt_e3_0, List.forall_mem_cons.mpr ⟨zt_e3_1, List.forall_mem_cons.mpr ⟨zt_e3_2, List.forall_mem_cons.mpr ⟨zt_e3_3, List.forall_mem_cons.mpr ⟨zt_e3_4, List.forall_mem_cons.mpr ⟨zt_e3_5, List.forall_mem_cons.mpr ⟨zt_e3_6, List.forall_mem_cons.mpr ⟨zt_e3_7, List.forall_mem_cons.mpr ⟨zt_e3_8, List.forall_mem_cons.mpr ⟨zt_e3_9, List.forall_mem_cons.mpr ⟨zt_e3_10, List.forall_mem_cons.mpr ⟨zt_e3_11, List.forall_mem_cons.mpr ⟨zt_e3_12, List.forall_mem_cons.mpr ⟨zt_e3_13, List.forall_mem_cons.mpr ⟨zt_e3_14, List.forall_mem_cons.mpr ⟨zt_e3_15, List.forall_mem_cons.mpr ⟨zt_e3_16, List.forall_mem_cons.mpr ⟨zt_e3_17, List.forall_mem_cons.mpr ⟨zt_e3_18, List.forall_mem_cons.mpr ⟨zt_e3_19, List.forall_mem_cons.mpr ⟨zt_e3_20, List.forall_mem_cons.mpr ⟨zt_e3_21, List.forall_mem_cons.mpr ⟨zt_e3_22, List.forall_mem_cons.mpr ⟨zt_e3_23, List.forall_mem_cons.mpr ⟨zt_e3_24, List.forall_mem_cons.mpr ⟨zt_e3_25, List.forall_mem_cons.mpr ⟨zt_e3_26, List.forall_mem_cons.mpr ⟨zt_e3_27, List.forall_mem_cons.mpr ⟨zt_e3_28, List.forall_mem_cons.mpr ⟨zt_e3_29, List.forall_mem_cons.mpr ⟨zt_e3_30, List.forall_mem_cons.mpr ⟨zt_e3_31, List.forall_mem_cons.mpr ⟨zt_e3_32, fun _ h => absurd h List.not_mem_nil⟩⟩⟩⟩⟩⟩⟩⟩⟩⟩⟩⟩⟩⟩⟩⟩⟩⟩⟩⟩⟩⟩⟩⟩⟩⟩⟩⟩⟩⟩⟩⟩⟩
set_option maxRecDepth 100000 in
theorem zt_lc3_ok : ∀ e ∈ zt_lc3, Cond.constantLong "ColumnVault$FilterReader" e.1 e.2.1 ∈ zt_good := List.forall_mem_cons.mpr ⟨(zt_in (j := 3) (k := 194) rfl rfl), List.forall_mem_cons.mpr ⟨(zt_in (j := 3) (k := 195) rfl rfl), List.forall_mem_cons.mpr ⟨(zt_in (j := 3) (k := 196) rfl rfl), List.forall_mem_cons.mpr ⟨(zt_in (j := 3) (k := 197) rfl rfl), List.forall_mem_cons.mpr ⟨(zt_in (j := 3) (k := 211) rfl rfl), List.forall_mem_cons.mpr ⟨(zt_in (j := 3) (k := 217) rfl rfl), List.forall_mem_cons.mpr ⟨(zt_in (j := 3) (k := 219) rfl rfl), fun _ h => absurd h List.not_mem_nil⟩⟩⟩⟩⟩⟩⟩
set_option maxRecDepth 100000 in
theorem zt_e4_3 : zt_eOK "ColumnVault$FilterText" (21, 6, 115, 0, 4152) := ⟨_, rfl, (zt_in (j := 4) (k := 152) rfl rfl)⟩
set_option maxRecDepth 100000 in
theorem zt_e4_2 : zt_eOK "ColumnVault$FilterText" (15, 0, 4, 1, 1103) := ⟨_, "ColumnVault$FilterText", rfl, by decide, (zt_in (j := 1) (k := 103) rfl rfl), Or.inl rfl⟩
set_option maxRecDepth 100000 in
theorem zt_e4_1 : zt_eOK "ColumnVault$FilterText" (9, 0, 4, 0, 1102) := ⟨_, "ColumnVault$FilterText", rfl, by decide, (zt_in (j := 1) (k := 102) rfl rfl), Or.inl rfl⟩
set_option maxRecDepth 100000 in
theorem zt_e4_0 : zt_eOK "ColumnVault$FilterText" (3, 10, 0, 0, 1101) := (zt_in (j := 1) (k := 101) rfl rfl)
theorem zt_pl4_ok : ∀ e ∈ zt_pl4, zt_eOK "ColumnVault$FilterText" e := List.forall_mem_cons.mpr ⟨zt_e4_0, List.forall_mem_cons.mpr ⟨zt_e4_1, List.forall_mem_cons.mpr ⟨zt_e4_2, List.forall_mem_cons.mpr ⟨zt_e4_3, fun _ h => absurd h List.not_mem_nil⟩⟩⟩⟩
set_option maxRecDepth 100000 in
theorem zt_lc4_ok : ∀ e ∈ zt_lc4, Cond.constantLong "ColumnVault$FilterText" e.1 e.2.1 ∈ zt_good := List.forall_mem_cons.mpr ⟨(zt_in (j := 4) (k := 151) rfl rfl), fun _ h => absurd h List.not_mem_nil⟩
set_option maxRecDepth 100000 in
theorem zt_e5_18 : zt_eOK "ColumnVault$Groups" (73, 5, 45, 0, 4059) := ⟨_, "ColumnVault", rfl, (zt_inN (j := 4) (k := 59) rfl rfl)⟩
set_option maxRecDepth 100000 in
theorem zt_e5_17 : zt_eOK "ColumnVault$Groups" (69, 6, 98, 0, 4054) := ⟨_, rfl, (zt_in (j := 4) (k := 54) rfl rfl)⟩
set_option maxRecDepth 100000 in
theorem zt_e5_16 : zt_eOK "ColumnVault$Groups" (65, 6, 35, 0, 4053) := ⟨_, rfl, (zt_in (j := 4) (k := 53) rfl rfl)⟩
set_option maxRecDepth 100000 in
theorem zt_e5_15 : zt_eOK "ColumnVault$Groups" (59, 6, 252, 0, 7052) := ⟨_, rfl, (zt_in (j := 7) (k := 52) rfl rfl)⟩
set_option maxRecDepth 100000 in
theorem zt_e5_14 : zt_eOK "ColumnVault$Groups" (55, 5, 206, 0, 7051) := ⟨_, "ColumnVault", rfl, (zt_inN (j := 7) (k := 51) rfl rfl)⟩
set_option maxRecDepth 100000 in
theorem zt_e5_13 : zt_eOK "ColumnVault$Groups" (51, 6, 16, 0, 7050) := ⟨_, rfl, (zt_in (j := 7) (k := 50) rfl rfl)⟩
set_option maxRecDepth 100000 in
theorem zt_e5_12 : zt_eOK "ColumnVault$Groups" (47, 6, 251, 0, 7046) := ⟨_, rfl, (zt_in (j := 7) (k := 46) rfl rfl)⟩
set_option maxRecDepth 100000 in
theorem zt_e5_11 : zt_eOK "ColumnVault$Groups" (43, 5, 90, 0, 7045) := ⟨_, "ColumnVault", rfl, (zt_inN (j := 7) (k := 45) rfl rfl)⟩
set_option maxRecDepth 100000 in
theorem zt_e5_10 : zt_eOK "ColumnVault$Groups" (39, 1, 10, 5, 1070) := ⟨_, "ColumnVault", rfl, by decide, (zt_inN (j := 1) (k := 70) rfl rfl)⟩
set_option maxRecDepth 100000 in
theorem zt_e5_9 : zt_eOK "ColumnVault$Groups" (36, 1, 10, 4, 1063) := ⟨_, "ColumnVault", rfl, by decide, (zt_inN (j := 1) (k := 63) rfl rfl)⟩
set_option maxRecDepth 100000 in
theorem zt_e5_8 : zt_eOK "ColumnVault$Groups" (32, 6, 25, 0, 7044) := ⟨_, rfl, (zt_in (j := 7) (k := 44) rfl rfl)⟩
set_option maxRecDepth 100000 in
theorem zt_e5_7 : zt_eOK "ColumnVault$Groups" (29, 0, 5, 4, 1161) := ⟨_, "ColumnVault$Groups", rfl, by decide, (zt_in (j := 1) (k := 161) rfl rfl), Or.inl rfl⟩
set_option maxRecDepth 100000 in
theorem zt_e5_6 : zt_eOK "ColumnVault$Groups" (25, 0, 5, 3, 1160) := ⟨_, "ColumnVault$Groups", rfl, by decide, (zt_in (j := 1) (k := 160) rfl rfl), Or.inl rfl⟩
set_option maxRecDepth 100000 in
theorem zt_e5_5 : zt_eOK "ColumnVault$Groups" (22, 0, 5, 2, 1159) := ⟨_, "ColumnVault$Groups", rfl, by decide, (zt_in (j := 1) (k := 159) rfl rfl), Or.inl rfl⟩
set_option maxRecDepth 100000 in
theorem zt_e5_4 : zt_eOK "ColumnVault$Groups" (18, 0, 5, 1, 1158) := ⟨_, "ColumnVault$Groups", rfl, by decide, (zt_in (j := 1) (k := 158) rfl rfl), Or.inl rfl⟩
set_option maxRecDepth 100000 in
theorem zt_e5_3 : zt_eOK "ColumnVault$Groups" (12, 0, 5, 0, 1155) := ⟨_, "ColumnVault$Groups", rfl, by decide, (zt_in (j := 1) (k := 155) rfl rfl), Or.inl rfl⟩
set_option maxRecDepth 100000 in
theorem zt_e5_2 : zt_eOK "ColumnVault$Groups" (11, 9, 3, 0, 1154) := ⟨_, "ColumnVault", rfl, (zt_inN (j := 1) (k := 154) rfl rfl)⟩
set_option maxRecDepth 100000 in
theorem zt_e5_1 : zt_eOK "ColumnVault$Groups" (9, 2, 10, 0, 1153) := ⟨"ColumnVault$Sheet", (zt_in (j := 1) (k := 153) rfl rfl), Or.inr rfl, Or.inr rfl⟩
set_option maxRecDepth 100000 in
theorem zt_e5_0 : zt_eOK "ColumnVault$Groups" (3, 10, 0, 0, 1152) := (zt_in (j := 1) (k := 152) rfl rfl)
theorem zt_pl5_ok : ∀ e ∈ zt_pl5, zt_eOK "ColumnVault$Groups" e := List.forall_mem_cons.mpr ⟨zt_e5_0, List.forall_mem_cons.mpr ⟨zt_e5_1, List.forall_mem_cons.mpr ⟨zt_e5_2, List.forall_mem_cons.mpr ⟨zt_e5_3, List.forall_mem_cons.mpr ⟨zt_e5_4, List.forall_mem_cons.mpr ⟨zt_e5_5, List.forall_mem_cons.mpr ⟨zt_e5_6, List.forall_mem_cons.mpr ⟨zt_e5_7, List.forall_mem_cons.mpr ⟨zt_e5_8, List.forall_mem_cons.mpr ⟨zt_e5_9, List.forall_mem_cons.mpr ⟨zt_e5_10, List.forall_mem_cons.mpr ⟨zt_e5_11, List.forall_mem_cons.mpr ⟨zt_e5_12, List.forall_mem_cons.mpr ⟨zt_e5_13, List.forall_mem_cons.mpr ⟨zt_e5_14, List.forall_mem_cons.mpr ⟨zt_e5_15, List.forall_mem_cons.mpr ⟨zt_e5_16, List.forall_mem_cons.mpr ⟨zt_e5_17, List.forall_mem_cons.mpr ⟨zt_e5_18, fun _ h => absurd h List.not_mem_nil⟩⟩⟩⟩⟩⟩⟩⟩⟩⟩⟩⟩⟩⟩⟩⟩⟩⟩⟩
set_option maxRecDepth 100000 in
theorem zt_lc5_ok : ∀ e ∈ zt_lc5, Cond.constantLong "ColumnVault$Groups" e.1 e.2.1 ∈ zt_good := List.forall_mem_cons.mpr ⟨(zt_in (j := 4) (k := 58) rfl rfl), fun _ h => absurd h List.not_mem_nil⟩
set_option maxRecDepth 100000 in
theorem zt_e6_6 : zt_eOK "ColumnVault$History" (26, 6, 25, 0, 2150) := ⟨_, rfl, (zt_in (j := 2) (k := 150) rfl rfl)⟩
set_option maxRecDepth 100000 in
theorem zt_e6_5 : zt_eOK "ColumnVault$History" (22, 6, 11, 0, 2149) := ⟨_, rfl, (zt_in (j := 2) (k := 149) rfl rfl)⟩
set_option maxRecDepth 100000 in
theorem zt_e6_4 : zt_eOK "ColumnVault$History" (21, 9, 3, 0, 1051) := ⟨_, "ColumnVault", rfl, (zt_inN (j := 1) (k := 51) rfl rfl)⟩
set_option maxRecDepth 100000 in
theorem zt_e6_3 : zt_eOK "ColumnVault$History" (17, 0, 6, 1, 1089) := ⟨_, "ColumnVault$History", rfl, by decide, (zt_in (j := 1) (k := 89) rfl rfl), Or.inl rfl⟩
set_option maxRecDepth 100000 in
theorem zt_e6_2 : zt_eOK "ColumnVault$History" (11, 0, 6, 0, 1088) := ⟨_, "ColumnVault$History", rfl, by decide, (zt_in (j := 1) (k := 88) rfl rfl), Or.inl rfl⟩
set_option maxRecDepth 100000 in
theorem zt_e6_1 : zt_eOK "ColumnVault$History" (9, 2, 10, 0, 1048) := ⟨"ColumnVault$Sheet", (zt_in (j := 1) (k := 48) rfl rfl), Or.inr rfl, Or.inr rfl⟩
set_option maxRecDepth 100000 in
theorem zt_e6_0 : zt_eOK "ColumnVault$History" (3, 10, 0, 0, 1047) := (zt_in (j := 1) (k := 47) rfl rfl)
theorem zt_pl6_ok : ∀ e ∈ zt_pl6, zt_eOK "ColumnVault$History" e := List.forall_mem_cons.mpr ⟨zt_e6_0, List.forall_mem_cons.mpr ⟨zt_e6_1, List.forall_mem_cons.mpr ⟨zt_e6_2, List.forall_mem_cons.mpr ⟨zt_e6_3, List.forall_mem_cons.mpr ⟨zt_e6_4, List.forall_mem_cons.mpr ⟨zt_e6_5, List.forall_mem_cons.mpr ⟨zt_e6_6, fun _ h => absurd h List.not_mem_nil⟩⟩⟩⟩⟩⟩⟩
set_option maxRecDepth 100000 in
theorem zt_lc6_ok : ∀ e ∈ zt_lc6, Cond.constantLong "ColumnVault$History" e.1 e.2.1 ∈ zt_good := fun _ h => absurd h List.not_mem_nil
set_option maxRecDepth 100000 in
theorem zt_e7_17 : zt_eOK "ColumnVault$JoinWays" (80, 16, 0, 0, 8119) := Or.inl ⟨rfl, (zt_in (j := 8) (k := 119) rfl rfl), (zt_in (j := 3) (k := 109) rfl rfl), (zt_in (j := 1) (k := 17) rfl rfl), (zt_in (j := 3) (k := 110) rfl rfl)⟩
set_option maxRecDepth 100000 in
theorem zt_e7_16 : zt_eOK "ColumnVault$JoinWays" (76, 6, 291, 0, 8126) := ⟨_, rfl, (zt_in (j := 8) (k := 126) rfl rfl)⟩
set_option maxRecDepth 100000 in
theorem zt_e7_15 : zt_eOK "ColumnVault$JoinWays" (72, 5, 90, 0, 8125) := ⟨_, "ColumnVault", rfl, (zt_inN (j := 8) (k := 125) rfl rfl)⟩
set_option maxRecDepth 100000 in
theorem zt_e7_14 : zt_eOK "ColumnVault$JoinWays" (67, 1, 10, 4, 1066) := ⟨_, "ColumnVault", rfl, by decide, (zt_inN (j := 1) (k := 66) rfl rfl)⟩
set_option maxRecDepth 100000 in
theorem zt_e7_13 : zt_eOK "ColumnVault$JoinWays" (63, 6, 289, 0, 8115) := ⟨_, rfl, (zt_in (j := 8) (k := 115) rfl rfl)⟩
set_option maxRecDepth 100000 in
theorem zt_e7_12 : zt_eOK "ColumnVault$JoinWays" (59, 6, 29, 0, 8114) := ⟨_, rfl, (zt_in (j := 8) (k := 114) rfl rfl)⟩
set_option maxRecDepth 100000 in
theorem zt_e7_11 : zt_eOK "ColumnVault$JoinWays" (55, 6, 16, 0, 8113) := ⟨_, rfl, (zt_in (j := 8) (k := 113) rfl rfl)⟩
set_option maxRecDepth 100000 in
theorem zt_e7_10 : zt_eOK "ColumnVault$JoinWays" (49, 4, 12, 0, 8135) := ⟨_, rfl, (zt_in (j := 8) (k := 135) rfl rfl)⟩
set_option maxRecDepth 100000 in
theorem zt_e7_9 : zt_eOK "ColumnVault$JoinWays" (43, 6, 292, 0, 8130) := ⟨_, rfl, (zt_in (j := 8) (k := 130) rfl rfl)⟩
set_option maxRecDepth 100000 in
theorem zt_e7_8 : zt_eOK "ColumnVault$JoinWays" (39, 6, 290, 0, 8120) := ⟨_, rfl, (zt_in (j := 8) (k := 120) rfl rfl)⟩
set_option maxRecDepth 100000 in
theorem zt_e7_7 : zt_eOK "ColumnVault$JoinWays" (35, 6, 288, 0, 8109) := ⟨_, rfl, (zt_in (j := 8) (k := 109) rfl rfl)⟩
set_option maxRecDepth 100000 in
theorem zt_e7_6 : zt_eOK "ColumnVault$JoinWays" (31, 6, 106, 0, 8108) := ⟨_, rfl, (zt_in (j := 8) (k := 108) rfl rfl)⟩
set_option maxRecDepth 100000 in
theorem zt_e7_5 : zt_eOK "ColumnVault$JoinWays" (25, 1, 10, 5, 1068) := ⟨_, "ColumnVault", rfl, by decide, (zt_inN (j := 1) (k := 68) rfl rfl)⟩
set_option maxRecDepth 100000 in
theorem zt_e7_4 : zt_eOK "ColumnVault$JoinWays" (22, 0, 7, 3, 8094) := ⟨_, "ColumnVault$JoinWays", rfl, by decide, (zt_in (j := 8) (k := 94) rfl rfl), Or.inl rfl⟩
set_option maxRecDepth 100000 in
theorem zt_e7_3 : zt_eOK "ColumnVault$JoinWays" (19, 0, 7, 2, 8093) := ⟨_, "ColumnVault$JoinWays", rfl, by decide, (zt_in (j := 8) (k := 93) rfl rfl), Or.inl rfl⟩
set_option maxRecDepth 100000 in
theorem zt_e7_2 : zt_eOK "ColumnVault$JoinWays" (15, 0, 7, 1, 8092) := ⟨_, "ColumnVault$JoinWays", rfl, by decide, (zt_in (j := 8) (k := 92) rfl rfl), Or.inl rfl⟩
set_option maxRecDepth 100000 in
theorem zt_e7_1 : zt_eOK "ColumnVault$JoinWays" (9, 0, 7, 0, 8091) := ⟨_, "ColumnVault$JoinWays", rfl, by decide, (zt_in (j := 8) (k := 91) rfl rfl), Or.inl rfl⟩
set_option maxRecDepth 100000 in
theorem zt_e7_0 : zt_eOK "ColumnVault$JoinWays" (3, 10, 0, 0, 8090) := (zt_in (j := 8) (k := 90) rfl rfl)
theorem zt_pl7_ok : ∀ e ∈ zt_pl7, zt_eOK "ColumnVault$JoinWays" e := List.forall_mem_cons.mpr ⟨zt_e7_0, List.forall_mem_cons.mpr ⟨zt_e7_1, List.forall_mem_cons.mpr ⟨zt_e7_2, List.forall_mem_cons.mpr ⟨zt_e7_3, List.forall_mem_cons.mpr ⟨zt_e7_4, List.forall_mem_cons.mpr ⟨zt_e7_5, List.forall_mem_cons.mpr ⟨zt_e7_6, List.forall_mem_cons.mpr ⟨zt_e7_7, List.forall_mem_cons.mpr ⟨zt_e7_8, List.forall_mem_cons.mpr ⟨zt_e7_9, List.forall_mem_cons.mpr ⟨zt_e7_10, List.forall_mem_cons.mpr ⟨zt_e7_11, List.forall_mem_cons.mpr ⟨zt_e7_12, List.forall_mem_cons.mpr ⟨zt_e7_13, List.forall_mem_cons.mpr ⟨zt_e7_14, List.forall_mem_cons.mpr ⟨zt_e7_15, List.forall_mem_cons.mpr ⟨zt_e7_16, List.forall_mem_cons.mpr ⟨zt_e7_17, fun _ h => absurd h List.not_mem_nil⟩⟩⟩⟩⟩⟩⟩⟩⟩⟩⟩⟩⟩⟩⟩⟩⟩⟩
set_option maxRecDepth 100000 in
theorem zt_lc7_ok : ∀ e ∈ zt_lc7, Cond.constantLong "ColumnVault$JoinWays" e.1 e.2.1 ∈ zt_good := List.forall_mem_cons.mpr ⟨(zt_in (j := 8) (k := 124) rfl rfl), List.forall_mem_cons.mpr ⟨(zt_in (j := 8) (k := 134) rfl rfl), fun _ h => absurd h List.not_mem_nil⟩⟩
set_option maxRecDepth 100000 in
theorem zt_e8_10 : zt_eOK "ColumnVault$Node" (45, 4, 12, 0, 3237) := ⟨_, rfl, (zt_in (j := 3) (k := 237) rfl rfl)⟩
set_option maxRecDepth 100000 in
theorem zt_e8_9 : zt_eOK "ColumnVault$Node" (41, 6, 85, 0, 3233) := ⟨_, rfl, (zt_in (j := 3) (k := 233) rfl rfl)⟩
set_option maxRecDepth 100000 in
theorem zt_e8_8 : zt_eOK "ColumnVault$Node" (37, 6, 84, 0, 3229) := ⟨_, rfl, (zt_in (j := 3) (k := 229) rfl rfl)⟩
set_option maxRecDepth 100000 in
theorem zt_e8_7 : zt_eOK "ColumnVault$Node" (31, 0, 8, 1, 3123) := ⟨_, "ColumnVault$Node", rfl, by decide, (zt_in (j := 3) (k := 123) rfl rfl), Or.inl rfl⟩
set_option maxRecDepth 100000 in
theorem zt_e8_6 : zt_eOK "ColumnVault$Node" (27, 0, 8, 0, 3121) := ⟨_, "ColumnVault$Node", rfl, by decide, (zt_in (j := 3) (k := 121) rfl rfl), Or.inl rfl⟩
set_option maxRecDepth 100000 in
theorem zt_e8_5 : zt_eOK "ColumnVault$Node" (24, 0, 8, 6, 3132) := ⟨_, "ColumnVault$Node", rfl, by decide, (zt_in (j := 3) (k := 132) rfl rfl), Or.inl rfl⟩
set_option maxRecDepth 100000 in
theorem zt_e8_4 : zt_eOK "ColumnVault$Node" (21, 0, 8, 5, 3130) := ⟨_, "ColumnVault$Node", rfl, by decide, (zt_in (j := 3) (k := 130) rfl rfl), Or.inl rfl⟩
set_option maxRecDepth 100000 in
theorem zt_e8_3 : zt_eOK "ColumnVault$Node" (18, 0, 8, 4, 3128) := ⟨_, "ColumnVault$Node", rfl, by decide, (zt_in (j := 3) (k := 128) rfl rfl), Or.inl rfl⟩
set_option maxRecDepth 100000 in
theorem zt_e8_2 : zt_eOK "ColumnVault$Node" (15, 0, 8, 3, 3127) := ⟨_, "ColumnVault$Node", rfl, by decide, (zt_in (j := 3) (k := 127) rfl rfl), Or.inl rfl⟩
set_option maxRecDepth 100000 in
theorem zt_e8_1 : zt_eOK "ColumnVault$Node" (9, 0, 8, 2, 3125) := ⟨_, "ColumnVault$Node", rfl, by decide, (zt_in (j := 3) (k := 125) rfl rfl), Or.inl rfl⟩
set_option maxRecDepth 100000 in
theorem zt_e8_0 : zt_eOK "ColumnVault$Node" (3, 10, 0, 0, 3120) := (zt_in (j := 3) (k := 120) rfl rfl)
theorem zt_pl8_ok : ∀ e ∈ zt_pl8, zt_eOK "ColumnVault$Node" e := List.forall_mem_cons.mpr ⟨zt_e8_0, List.forall_mem_cons.mpr ⟨zt_e8_1, List.forall_mem_cons.mpr ⟨zt_e8_2, List.forall_mem_cons.mpr ⟨zt_e8_3, List.forall_mem_cons.mpr ⟨zt_e8_4, List.forall_mem_cons.mpr ⟨zt_e8_5, List.forall_mem_cons.mpr ⟨zt_e8_6, List.forall_mem_cons.mpr ⟨zt_e8_7, List.forall_mem_cons.mpr ⟨zt_e8_8, List.forall_mem_cons.mpr ⟨zt_e8_9, List.forall_mem_cons.mpr ⟨zt_e8_10, fun _ h => absurd h List.not_mem_nil⟩⟩⟩⟩⟩⟩⟩⟩⟩⟩⟩
set_option maxRecDepth 100000 in
theorem zt_lc8_ok : ∀ e ∈ zt_lc8, Cond.constantLong "ColumnVault$Node" e.1 e.2.1 ∈ zt_good := List.forall_mem_cons.mpr ⟨(zt_in (j := 3) (k := 224) rfl rfl), fun _ h => absurd h List.not_mem_nil⟩
set_option maxRecDepth 100000 in
theorem zt_e9_10 : zt_eOK "ColumnVault$Pairs" (49, 6, 92, 0, 4027) := ⟨_, rfl, (zt_in (j := 4) (k := 27) rfl rfl)⟩
set_option maxRecDepth 100000 in
theorem zt_e9_9 : zt_eOK "ColumnVault$Pairs" (45, 6, 91, 0, 4023) := ⟨_, rfl, (zt_in (j := 4) (k := 23) rfl rfl)⟩
set_option maxRecDepth 100000 in
theorem zt_e9_8 : zt_eOK "ColumnVault$Pairs" (41, 6, 14, 0, 4022) := ⟨_, rfl, (zt_in (j := 4) (k := 22) rfl rfl)⟩
set_option maxRecDepth 100000 in
theorem zt_e9_7 : zt_eOK "ColumnVault$Pairs" (35, 6, 16, 0, 4020) := ⟨_, rfl, (zt_in (j := 4) (k := 20) rfl rfl)⟩
set_option maxRecDepth 100000 in
theorem zt_e9_6 : zt_eOK "ColumnVault$Pairs" (31, 5, 90, 0, 4017) := ⟨_, "ColumnVault", rfl, (zt_inN (j := 4) (k := 17) rfl rfl)⟩
set_option maxRecDepth 100000 in
theorem zt_e9_5 : zt_eOK "ColumnVault$Pairs" (27, 1, 10, 5, 1069) := ⟨_, "ColumnVault", rfl, by decide, (zt_inN (j := 1) (k := 69) rfl rfl)⟩
set_option maxRecDepth 100000 in
theorem zt_e9_4 : zt_eOK "ColumnVault$Pairs" (22, 1, 10, 4, 1062) := ⟨_, "ColumnVault", rfl, by decide, (zt_inN (j := 1) (k := 62) rfl rfl)⟩
set_option maxRecDepth 100000 in
theorem zt_e9_3 : zt_eOK "ColumnVault$Pairs" (18, 0, 9, 2, 1138) := ⟨_, "ColumnVault$Pairs", rfl, by decide, (zt_in (j := 1) (k := 138) rfl rfl), Or.inl rfl⟩
set_option maxRecDepth 100000 in
theorem zt_e9_2 : zt_eOK "ColumnVault$Pairs" (15, 0, 9, 1, 1137) := ⟨_, "ColumnVault$Pairs", rfl, by decide, (zt_in (j := 1) (k := 137) rfl rfl), Or.inl rfl⟩
set_option maxRecDepth 100000 in
theorem zt_e9_1 : zt_eOK "ColumnVault$Pairs" (9, 0, 9, 0, 1136) := ⟨_, "ColumnVault$Pairs", rfl, by decide, (zt_in (j := 1) (k := 136) rfl rfl), Or.inl rfl⟩
set_option maxRecDepth 100000 in
theorem zt_e9_0 : zt_eOK "ColumnVault$Pairs" (3, 10, 0, 0, 1135) := (zt_in (j := 1) (k := 135) rfl rfl)
theorem zt_pl9_ok : ∀ e ∈ zt_pl9, zt_eOK "ColumnVault$Pairs" e := List.forall_mem_cons.mpr ⟨zt_e9_0, List.forall_mem_cons.mpr ⟨zt_e9_1, List.forall_mem_cons.mpr ⟨zt_e9_2, List.forall_mem_cons.mpr ⟨zt_e9_3, List.forall_mem_cons.mpr ⟨zt_e9_4, List.forall_mem_cons.mpr ⟨zt_e9_5, List.forall_mem_cons.mpr ⟨zt_e9_6, List.forall_mem_cons.mpr ⟨zt_e9_7, List.forall_mem_cons.mpr ⟨zt_e9_8, List.forall_mem_cons.mpr ⟨zt_e9_9, List.forall_mem_cons.mpr ⟨zt_e9_10, fun _ h => absurd h List.not_mem_nil⟩⟩⟩⟩⟩⟩⟩⟩⟩⟩⟩
set_option maxRecDepth 100000 in
theorem zt_lc9_ok : ∀ e ∈ zt_lc9, Cond.constantLong "ColumnVault$Pairs" e.1 e.2.1 ∈ zt_good := List.forall_mem_cons.mpr ⟨(zt_in (j := 4) (k := 21) rfl rfl), fun _ h => absurd h List.not_mem_nil⟩
set_option maxRecDepth 100000 in
theorem zt_e10_24 : zt_eOK "ColumnVault$Sheet" (110, 6, 121, 0, 4186) := ⟨_, rfl, (zt_in (j := 4) (k := 186) rfl rfl)⟩
set_option maxRecDepth 100000 in
theorem zt_e10_23 : zt_eOK "ColumnVault$Sheet" (106, 6, 119, 0, 4169) := ⟨_, rfl, (zt_in (j := 4) (k := 169) rfl rfl)⟩
set_option maxRecDepth 100000 in
theorem zt_e10_22 : zt_eOK "ColumnVault$Sheet" (102, 6, 120, 0, 4173) := ⟨_, rfl, (zt_in (j := 4) (k := 173) rfl rfl)⟩
set_option maxRecDepth 100000 in
theorem zt_e10_21 : zt_eOK "ColumnVault$Sheet" (98, 6, 104, 0, 4096) := ⟨_, rfl, (zt_in (j := 4) (k := 96) rfl rfl)⟩
set_option maxRecDepth 100000 in
theorem zt_e10_20 : zt_eOK "ColumnVault$Sheet" (94, 6, 15, 0, 2070) := ⟨_, rfl, (zt_in (j := 2) (k := 70) rfl rfl)⟩
set_option maxRecDepth 100000 in
theorem zt_e10_19 : zt_eOK "ColumnVault$Sheet" (86, 5, 90, 0, 4068) := ⟨_, "ColumnVault", rfl, (zt_inN (j := 4) (k := 68) rfl rfl)⟩
set_option maxRecDepth 100000 in
theorem zt_e10_18 : zt_eOK "ColumnVault$Sheet" (82, 5, 206, 0, 6077) := ⟨_, "ColumnVault", rfl, (zt_inN (j := 6) (k := 77) rfl rfl)⟩
set_option maxRecDepth 100000 in
theorem zt_e10_17 : zt_eOK "ColumnVault$Sheet" (79, 6, 50, 0, 6084) := ⟨_, rfl, (zt_in (j := 6) (k := 84) rfl rfl)⟩
set_option maxRecDepth 100000 in
theorem zt_e10_16 : zt_eOK "ColumnVault$Sheet" (73, 6, 195, 0, 6033) := ⟨_, rfl, (zt_in (j := 6) (k := 33) rfl rfl)⟩
set_option maxRecDepth 100000 in
theorem zt_e10_15 : zt_eOK "ColumnVault$Sheet" (69, 6, 27, 0, 2161) := ⟨_, rfl, (zt_in (j := 2) (k := 161) rfl rfl)⟩
set_option maxRecDepth 100000 in
theorem zt_e10_14 : zt_eOK "ColumnVault$Sheet" (63, 4, 12, 0, 2078) := ⟨_, rfl, (zt_in (j := 2) (k := 78) rfl rfl)⟩
set_option maxRecDepth 100000 in
theorem zt_e10_13 : zt_eOK "ColumnVault$Sheet" (60, 6, 14, 0, 2066) := ⟨_, rfl, (zt_in (j := 2) (k := 66) rfl rfl)⟩
set_option maxRecDepth 100000 in
theorem zt_e10_12 : zt_eOK "ColumnVault$Sheet" (56, 5, 45, 0, 3000) := ⟨_, "ColumnVault", rfl, (zt_inN (j := 3) (k := 0) rfl rfl)⟩
set_option maxRecDepth 100000 in
theorem zt_e10_11 : zt_eOK "ColumnVault$Sheet" (52, 6, 16, 0, 2074) := ⟨_, rfl, (zt_in (j := 2) (k := 74) rfl rfl)⟩
set_option maxRecDepth 100000 in
theorem zt_e10_10 : zt_eOK "ColumnVault$Sheet" (49, 6, 29, 0, 2169) := ⟨_, rfl, (zt_in (j := 2) (k := 169) rfl rfl)⟩
set_option maxRecDepth 100000 in
theorem zt_e10_9 : zt_eOK "ColumnVault$Sheet" (43, 6, 28, 0, 2165) := ⟨_, rfl, (zt_in (j := 2) (k := 165) rfl rfl)⟩
set_option maxRecDepth 100000 in
theorem zt_e10_8 : zt_eOK "ColumnVault$Sheet" (39, 6, 35, 0, 2239) := ⟨_, rfl, (zt_in (j := 2) (k := 239) rfl rfl)⟩
set_option maxRecDepth 100000 in
theorem zt_e10_7 : zt_eOK "ColumnVault$Sheet" (33, 17, 0, 0, 2154) := (zt_in (j := 2) (k := 154) rfl rfl)
set_option maxRecDepth 100000 in
theorem zt_e10_6 : zt_eOK "ColumnVault$Sheet" (29, 0, 10, 5, 1067) := ⟨_, "ColumnVault$Sheet", rfl, by decide, (zt_in (j := 1) (k := 67) rfl rfl), Or.inl rfl⟩
