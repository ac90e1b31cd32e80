set_option maxRecDepth 100000 in
theorem zt_e17_108 : zt_eOK "ColumnVaultLaw" (349, 13, 668, 1, 8070) := ⟨"7", zt_ch_in (j := 8) (List.mem_of_getElem? (i := 70) rfl), fun _ => List.mem_of_getElem? (i := 34) rfl⟩
set_option maxRecDepth 100000 in
theorem zt_e17_107 : zt_eOK "ColumnVaultLaw" (347, 13, 666, 1, 8069) := ⟨"x", zt_ch_in (j := 8) (List.mem_of_getElem? (i := 69) rfl), fun _ => List.mem_of_getElem? (i := 33) rfl⟩
set_option maxRecDepth 100000 in
theorem zt_e17_106 : zt_eOK "ColumnVaultLaw" (345, 13, 664, 1, 8068) := ⟨"missin", zt_ch_in (j := 8) (List.mem_of_getElem? (i := 68) rfl), fun _ => List.mem_of_getElem? (i := 32) rfl⟩
set_option maxRecDepth 100000 in
theorem zt_e17_105 : zt_eOK "ColumnVaultLaw" (343, 13, 662, 1, 8067) := ⟨"5", zt_ch_in (j := 8) (List.mem_of_getElem? (i := 67) rfl), fun _ => List.mem_of_getElem? (i := 31) rfl⟩
set_option maxRecDepth 100000 in
theorem zt_e17_104 : zt_eOK "ColumnVaultLaw" (341, 13, 660, 1, 8066) := ⟨"#0 = 5 | ", zt_ch_in (j := 8) (List.mem_of_getElem? (i := 66) rfl), fun _ => List.mem_of_getElem? (i := 30) rfl⟩
set_option maxRecDepth 100000 in
theorem zt_e17_103 : zt_eOK "ColumnVaultLaw" (339, 13, 658, 1, 8065) := ⟨"#0 missing ", zt_ch_in (j := 8) (List.mem_of_getElem? (i := 65) rfl), fun _ => List.mem_of_getElem? (i := 29) rfl⟩
set_option maxRecDepth 100000 in
theorem zt_e17_102 : zt_eOK "ColumnVaultLaw" (337, 13, 656, 1, 8064) := ⟨"#0 > -", zt_ch_in (j := 8) (List.mem_of_getElem? (i := 64) rfl), fun _ => List.mem_of_getElem? (i := 28) rfl⟩
set_option maxRecDepth 100000 in
theorem zt_e17_101 : zt_eOK "ColumnVaultLaw" (335, 13, 654, 1, 8063) := ⟨"(#0 missing", zt_ch_in (j := 8) (List.mem_of_getElem? (i := 63) rfl), fun _ => List.mem_of_getElem? (i := 27) rfl⟩
set_option maxRecDepth 100000 in
theorem zt_e17_100 : zt_eOK "ColumnVaultLaw" (333, 13, 652, 1, 8062) := ⟨"#0 < 5 & ", zt_ch_in (j := 8) (List.mem_of_getElem? (i := 62) rfl), fun _ => List.mem_of_getElem? (i := 26) rfl⟩
set_option maxRecDepth 100000 in
theorem zt_e17_99 : zt_eOK "ColumnVaultLaw" (331, 13, 650, 1, 8061) := ⟨"#0 = ", zt_ch_in (j := 8) (List.mem_of_getElem? (i := 61) rfl), fun _ => List.mem_of_getElem? (i := 25) rfl⟩
set_option maxRecDepth 100000 in
theorem zt_e17_98 : zt_eOK "ColumnVaultLaw" (329, 13, 648, 1, 8060) := ⟨"((((((", zt_ch_in (j := 8) (List.mem_of_getElem? (i := 60) rfl), fun _ => List.mem_of_getElem? (i := 24) rfl⟩
set_option maxRecDepth 100000 in
theorem zt_e17_97 : zt_eOK "ColumnVaultLaw" (327, 13, 646, 1, 8059) := ⟨"!!!", zt_ch_in (j := 8) (List.mem_of_getElem? (i := 59) rfl), fun _ => List.mem_of_getElem? (i := 23) rfl⟩
set_option maxRecDepth 100000 in
theorem zt_e17_96 : zt_eOK "ColumnVaultLaw" (325, 13, 644, 1, 8058) := ⟨"#0 in 1 2 3 4 5 6 ", zt_ch_in (j := 8) (List.mem_of_getElem? (i := 58) rfl), fun _ => List.mem_of_getElem? (i := 22) rfl⟩
set_option maxRecDepth 100000 in
theorem zt_e17_95 : zt_eOK "ColumnVaultLaw" (323, 13, 642, 1, 8057) := ⟨"#0 to 1 ", zt_ch_in (j := 8) (List.mem_of_getElem? (i := 57) rfl), fun _ => List.mem_of_getElem? (i := 21) rfl⟩
set_option maxRecDepth 100000 in
theorem zt_e17_94 : zt_eOK "ColumnVaultLaw" (321, 13, 640, 1, 8056) := ⟨"#0 ", zt_ch_in (j := 8) (List.mem_of_getElem? (i := 56) rfl), fun _ => List.mem_of_getElem? (i := 20) rfl⟩
set_option maxRecDepth 100000 in
theorem zt_e17_93 : zt_eOK "ColumnVaultLaw" (319, 13, 638, 1, 8055) := ⟨"#0 = 5 ", zt_ch_in (j := 8) (List.mem_of_getElem? (i := 55) rfl), fun _ => List.mem_of_getElem? (i := 19) rfl⟩
set_option maxRecDepth 100000 in
theorem zt_e17_92 : zt_eOK "ColumnVaultLaw" (317, 13, 636, 1, 8054) := ⟨"#0 < ", zt_ch_in (j := 8) (List.mem_of_getElem? (i := 54) rfl), fun _ => List.mem_of_getElem? (i := 18) rfl⟩
set_option maxRecDepth 100000 in
theorem zt_e17_91 : zt_eOK "ColumnVaultLaw" (313, 6, 282, 0, 8044) := ⟨_, rfl, (zt_in (j := 8) (k := 44) rfl rfl)⟩
set_option maxRecDepth 100000 in
theorem zt_e17_90 : zt_eOK "ColumnVaultLaw" (310, 6, 279, 0, 7208) := ⟨_, rfl, (zt_in (j := 7) (k := 208) rfl rfl)⟩
set_option maxRecDepth 100000 in
theorem zt_e17_89 : zt_eOK "ColumnVaultLaw" (308, 13, 634, 1, 7207) := ⟨"!(", zt_ch_in (j := 7) (List.mem_of_getElem? (i := 207) rfl), fun _ => List.mem_of_getElem? (i := 17) rfl⟩
set_option maxRecDepth 100000 in
theorem zt_e17_88 : zt_eOK "ColumnVaultLaw" (304, 4, 278, 0, 7204) := ⟨_, rfl, (zt_in (j := 7) (k := 204) rfl rfl)⟩
set_option maxRecDepth 100000 in
theorem zt_e17_87 : zt_eOK "ColumnVaultLaw" (301, 6, 276, 0, 7196) := ⟨_, rfl, (zt_in (j := 7) (k := 196) rfl rfl)⟩
set_option maxRecDepth 100000 in
theorem zt_e17_86 : zt_eOK "ColumnVaultLaw" (298, 4, 275, 0, 7193) := ⟨_, rfl, (zt_in (j := 7) (k := 193) rfl rfl)⟩
set_option maxRecDepth 100000 in
theorem zt_e17_85 : zt_eOK "ColumnVaultLaw" (295, 6, 274, 0, 7189) := ⟨_, rfl, (zt_in (j := 7) (k := 189) rfl rfl)⟩
set_option maxRecDepth 100000 in
theorem zt_e17_84 : zt_eOK "ColumnVaultLaw" (292, 6, 273, 0, 7185) := ⟨_, rfl, (zt_in (j := 7) (k := 185) rfl rfl)⟩
set_option maxRecDepth 100000 in
theorem zt_e17_83 : zt_eOK "ColumnVaultLaw" (288, 4, 269, 0, 7147) := ⟨_, rfl, (zt_in (j := 7) (k := 147) rfl rfl)⟩
set_option maxRecDepth 100000 in
theorem zt_e17_82 : zt_eOK "ColumnVaultLaw" (287, 6, 161, 0, 7146) := ⟨_, rfl, (zt_in (j := 7) (k := 146) rfl rfl)⟩
set_option maxRecDepth 100000 in
theorem zt_e17_81 : zt_eOK "ColumnVaultLaw" (284, 8, 257, 0, 7082) := ⟨_, rfl, (zt_in (j := 7) (k := 82) rfl rfl)⟩
set_option maxRecDepth 100000 in
theorem zt_e17_80 : zt_eOK "ColumnVaultLaw" (278, 4, 21, 0, 2113) := ⟨_, rfl, (zt_in (j := 2) (k := 113) rfl rfl)⟩
set_option maxRecDepth 100000 in
theorem zt_e17_79 : zt_eOK "ColumnVaultLaw" (277, 11, 5, 0, 7167) := ⟨_, rfl, (zt_in (j := 7) (k := 167) rfl rfl)⟩
set_option maxRecDepth 100000 in
theorem zt_e17_78 : zt_eOK "ColumnVaultLaw" (274, 11, 4, 0, 7155) := ⟨_, rfl, (zt_in (j := 7) (k := 155) rfl rfl)⟩
set_option maxRecDepth 100000 in
theorem zt_e17_77 : zt_eOK "ColumnVaultLaw" (271, 6, 270, 0, 7150) := ⟨_, rfl, (zt_in (j := 7) (k := 150) rfl rfl)⟩
set_option maxRecDepth 100000 in
theorem zt_e17_76 : zt_eOK "ColumnVaultLaw" (269, 13, 632, 1, 7145) := ⟨" & ", zt_ch_in (j := 7) (List.mem_of_getElem? (i := 145) rfl), fun _ => List.mem_of_getElem? (i := 16) rfl⟩
set_option maxRecDepth 100000 in
theorem zt_e17_75 : zt_eOK "ColumnVaultLaw" (267, 13, 630, 1, 7144) := ⟨"&", zt_ch_in (j := 7) (List.mem_of_getElem? (i := 144) rfl), fun _ => List.mem_of_getElem? (i := 15) rfl⟩
set_option maxRecDepth 100000 in
theorem zt_e17_74 : zt_eOK "ColumnVaultLaw" (265, 13, 628, 1, 7097) := ⟨" | ", zt_ch_in (j := 7) (List.mem_of_getElem? (i := 97) rfl), fun _ => List.mem_of_getElem? (i := 14) rfl⟩
set_option maxRecDepth 100000 in
theorem zt_e17_73 : zt_eOK "ColumnVaultLaw" (263, 13, 626, 1, 7096) := ⟨"|", zt_ch_in (j := 7) (List.mem_of_getElem? (i := 96) rfl), fun _ => List.mem_of_getElem? (i := 13) rfl⟩
set_option maxRecDepth 100000 in
theorem zt_e17_72 : zt_eOK "ColumnVaultLaw" (259, 4, 262, 0, 7106) := ⟨_, rfl, (zt_in (j := 7) (k := 106) rfl rfl)⟩
set_option maxRecDepth 100000 in
theorem zt_e17_71 : zt_eOK "ColumnVaultLaw" (257, 13, 624, 1, 7105) := ⟨")", zt_ch_in (j := 7) (List.mem_of_getElem? (i := 105) rfl), fun _ => List.mem_of_getElem? (i := 12) rfl⟩
set_option maxRecDepth 100000 in
theorem zt_e17_70 : zt_eOK "ColumnVaultLaw" (254, 4, 260, 0, 7093) := ⟨_, rfl, (zt_in (j := 7) (k := 93) rfl rfl)⟩
set_option maxRecDepth 100000 in
theorem zt_e17_69 : zt_eOK "ColumnVaultLaw" (252, 13, 622, 1, 7104) := ⟨"(", zt_ch_in (j := 7) (List.mem_of_getElem? (i := 104) rfl), fun _ => List.mem_of_getElem? (i := 11) rfl⟩
set_option maxRecDepth 100000 in
theorem zt_e17_68 : zt_eOK "ColumnVaultLaw" (248, 4, 261, 0, 7099) := ⟨_, rfl, (zt_in (j := 7) (k := 99) rfl rfl)⟩
set_option maxRecDepth 100000 in
theorem zt_e17_67 : zt_eOK "ColumnVaultLaw" (246, 13, 620, 1, 7103) := ⟨"! ", zt_ch_in (j := 7) (List.mem_of_getElem? (i := 103) rfl), fun _ => List.mem_of_getElem? (i := 10) rfl⟩
set_option maxRecDepth 100000 in
theorem zt_e17_66 : zt_eOK "ColumnVaultLaw" (244, 13, 618, 1, 7102) := ⟨"!", zt_ch_in (j := 7) (List.mem_of_getElem? (i := 102) rfl), fun _ => List.mem_of_getElem? (i := 9) rfl⟩
set_option maxRecDepth 100000 in
theorem zt_e17_65 : zt_eOK "ColumnVaultLaw" (241, 6, 263, 0, 7117) := ⟨_, rfl, (zt_in (j := 7) (k := 117) rfl rfl)⟩
set_option maxRecDepth 100000 in
theorem zt_e17_64 : zt_eOK "ColumnVaultLaw" (239, 13, 616, 1, 7116) := ⟨"missing", zt_ch_in (j := 7) (List.mem_of_getElem? (i := 116) rfl), fun _ => List.mem_of_getElem? (i := 8) rfl⟩
set_option maxRecDepth 100000 in
theorem zt_e17_63 : zt_eOK "ColumnVaultLaw" (237, 13, 614, 1, 7115) := ⟨"in", zt_ch_in (j := 7) (List.mem_of_getElem? (i := 115) rfl), fun _ => List.mem_of_getElem? (i := 7) rfl⟩
set_option maxRecDepth 100000 in
theorem zt_e17_62 : zt_eOK "ColumnVaultLaw" (235, 13, 612, 1, 7114) := ⟨"to", zt_ch_in (j := 7) (List.mem_of_getElem? (i := 114) rfl), fun _ => List.mem_of_getElem? (i := 6) rfl⟩
set_option maxRecDepth 100000 in
theorem zt_e17_61 : zt_eOK "ColumnVaultLaw" (233, 13, 610, 1, 7113) := ⟨"=", zt_ch_in (j := 7) (List.mem_of_getElem? (i := 113) rfl), fun _ => List.mem_of_getElem? (i := 5) rfl⟩
set_option maxRecDepth 100000 in
theorem zt_e17_60 : zt_eOK "ColumnVaultLaw" (231, 13, 608, 1, 7112) := ⟨">", zt_ch_in (j := 7) (List.mem_of_getElem? (i := 112) rfl), fun _ => List.mem_of_getElem? (i := 4) rfl⟩
set_option maxRecDepth 100000 in
theorem zt_e17_59 : zt_eOK "ColumnVaultLaw" (229, 13, 606, 1, 7111) := ⟨"<", zt_ch_in (j := 7) (List.mem_of_getElem? (i := 111) rfl), fun _ => List.mem_of_getElem? (i := 3) rfl⟩
set_option maxRecDepth 100000 in
theorem zt_e17_58 : zt_eOK "ColumnVaultLaw" (227, 13, 604, 1, 7081) := ⟨"", zt_ch_in (j := 7) (List.mem_of_getElem? (i := 81) rfl), fun _ => List.mem_of_getElem? (i := 2) rfl⟩
set_option maxRecDepth 100000 in
theorem zt_e17_57 : zt_eOK "ColumnVaultLaw" (225, 13, 602, 1, 7080) := ⟨" ", zt_ch_in (j := 7) (List.mem_of_getElem? (i := 80) rfl), fun _ => List.mem_of_getElem? (i := 1) rfl⟩
set_option maxRecDepth 100000 in
theorem zt_e17_56 : zt_eOK "ColumnVaultLaw" (222, 6, 166, 0, 7110) := ⟨_, rfl, (zt_in (j := 7) (k := 110) rfl rfl)⟩
set_option maxRecDepth 100000 in
theorem zt_e17_55 : zt_eOK "ColumnVaultLaw" (219, 6, 175, 0, 7098) := ⟨_, rfl, (zt_in (j := 7) (k := 98) rfl rfl)⟩
set_option maxRecDepth 100000 in
theorem zt_e17_54 : zt_eOK "ColumnVaultLaw" (217, 13, 600, 1, 7109) := ⟨"#", zt_ch_in (j := 7) (List.mem_of_getElem? (i := 109) rfl), fun _ => List.mem_of_getElem? (i := 0) rfl⟩
set_option maxRecDepth 100000 in
theorem zt_e17_53 : zt_eOK "ColumnVaultLaw" (214, 6, 245, 0, 7012) := ⟨_, rfl, (zt_in (j := 7) (k := 12) rfl rfl)⟩
set_option maxRecDepth 100000 in
theorem zt_e17_52 : zt_eOK "ColumnVaultLaw" (210, 4, 208, 0, 6085) := ⟨_, rfl, (zt_in (j := 6) (k := 85) rfl rfl)⟩
set_option maxRecDepth 100000 in
theorem zt_e17_51 : zt_eOK "ColumnVaultLaw" (206, 6, 204, 0, 6069) := ⟨_, rfl, (zt_in (j := 6) (k := 69) rfl rfl)⟩
set_option maxRecDepth 100000 in
theorem zt_e17_50 : zt_eOK "ColumnVaultLaw" (201, 6, 201, 0, 6056) := ⟨_, rfl, (zt_in (j := 6) (k := 56) rfl rfl)⟩
set_option maxRecDepth 100000 in
theorem zt_e17_49 : zt_eOK "ColumnVaultLaw" (198, 6, 17, 0, 2095) := ⟨_, rfl, (zt_in (j := 2) (k := 95) rfl rfl)⟩
set_option maxRecDepth 100000 in
theorem zt_e17_48 : zt_eOK "ColumnVaultLaw" (192, 4, 198, 0, 6043) := ⟨_, rfl, (zt_in (j := 6) (k := 43) rfl rfl)⟩
set_option maxRecDepth 100000 in
theorem zt_e17_47 : zt_eOK "ColumnVaultLaw" (188, 4, 197, 0, 6040) := ⟨_, rfl, (zt_in (j := 6) (k := 40) rfl rfl)⟩
set_option maxRecDepth 100000 in
theorem zt_e17_46 : zt_eOK "ColumnVaultLaw" (184, 4, 200, 0, 6051) := ⟨_, rfl, (zt_in (j := 6) (k := 51) rfl rfl)⟩
set_option maxRecDepth 100000 in
theorem zt_e17_45 : zt_eOK "ColumnVaultLaw" (178, 6, 199, 0, 6046) := ⟨_, rfl, (zt_in (j := 6) (k := 46) rfl rfl)⟩
set_option maxRecDepth 100000 in
theorem zt_e17_44 : zt_eOK "ColumnVaultLaw" (176, 18, 4, 0, 6054) := ⟨"[[J", _, (zt_in (j := 6) (k := 54) rfl rfl), rfl, by decide +kernel⟩
set_option maxRecDepth 100000 in
theorem zt_e17_43 : zt_eOK "ColumnVaultLaw" (173, 6, 193, 0, 6025) := ⟨_, rfl, (zt_in (j := 6) (k := 25) rfl rfl)⟩
set_option maxRecDepth 100000 in
theorem zt_e17_42 : zt_eOK "ColumnVaultLaw" (169, 4, 129, 0, 4215) := ⟨_, rfl, (zt_in (j := 4) (k := 215) rfl rfl)⟩
set_option maxRecDepth 100000 in
theorem zt_e17_41 : zt_eOK "ColumnVaultLaw" (166, 6, 128, 0, 4211) := ⟨_, rfl, (zt_in (j := 4) (k := 211) rfl rfl)⟩
set_option maxRecDepth 100000 in
theorem zt_e17_40 : zt_eOK "ColumnVaultLaw" (162, 2, 15, 999, 2119) := ⟨"java/lang/IllegalStateException", (zt_in (j := 2) (k := 119) rfl rfl), Or.inr rfl, Or.inl rfl⟩
set_option maxRecDepth 100000 in
theorem zt_e17_39 : zt_eOK "ColumnVaultLaw" (158, 2, 14, 999, 2118) := ⟨"java/lang/IllegalArgumentException", (zt_in (j := 2) (k := 118) rfl rfl), Or.inr rfl, Or.inl rfl⟩
set_option maxRecDepth 100000 in
theorem zt_e17_38 : zt_eOK "ColumnVaultLaw" (154, 2, 16, 999, 2117) := ⟨"java/util/NoSuchElementException", (zt_in (j := 2) (k := 117) rfl rfl), Or.inr rfl, Or.inl rfl⟩
set_option maxRecDepth 100000 in
theorem zt_e17_37 : zt_eOK "ColumnVaultLaw" (150, 2, 13, 999, 2116) := ⟨"java/lang/IndexOutOfBoundsException", (zt_in (j := 2) (k := 116) rfl rfl), Or.inr rfl, Or.inl rfl⟩
set_option maxRecDepth 100000 in
theorem zt_e17_36 : zt_eOK "ColumnVaultLaw" (147, 6, 9, 0, 1214) := ⟨_, rfl, (zt_in (j := 1) (k := 214) rfl rfl)⟩
set_option maxRecDepth 100000 in
theorem zt_e17_35 : zt_eOK "ColumnVaultLaw" (144, 6, 124, 0, 4192) := ⟨_, rfl, (zt_in (j := 4) (k := 192) rfl rfl)⟩
set_option maxRecDepth 100000 in
theorem zt_e17_34 : zt_eOK "ColumnVaultLaw" (141, 6, 123, 0, 4188) := ⟨_, rfl, (zt_in (j := 4) (k := 188) rfl rfl)⟩
set_option maxRecDepth 100000 in
theorem zt_e17_33 : zt_eOK "ColumnVaultLaw" (137, 6, 116, 0, 4156) := ⟨_, rfl, (zt_in (j := 4) (k := 156) rfl rfl)⟩
set_option maxRecDepth 100000 in
theorem zt_e17_32 : zt_eOK "ColumnVaultLaw" (133, 6, 112, 0, 4139) := ⟨_, rfl, (zt_in (j := 4) (k := 139) rfl rfl)⟩
set_option maxRecDepth 100000 in
theorem zt_e17_31 : zt_eOK "ColumnVaultLaw" (129, 6, 110, 0, 4129) := ⟨_, rfl, (zt_in (j := 4) (k := 129) rfl rfl)⟩
set_option maxRecDepth 100000 in
theorem zt_e17_30 : zt_eOK "ColumnVaultLaw" (125, 6, 109, 0, 4125) := ⟨_, rfl, (zt_in (j := 4) (k := 125) rfl rfl)⟩
set_option maxRecDepth 100000 in
theorem zt_e17_29 : zt_eOK "ColumnVaultLaw" (121, 6, 108, 0, 4117) := ⟨_, rfl, (zt_in (j := 4) (k := 117) rfl rfl)⟩
set_option maxRecDepth 100000 in
theorem zt_e17_28 : zt_eOK "ColumnVaultLaw" (118, 6, 102, 0, 4074) := ⟨_, rfl, (zt_in (j := 4) (k := 74) rfl rfl)⟩
set_option maxRecDepth 100000 in
theorem zt_e17_27 : zt_eOK "ColumnVaultLaw" (114, 6, 95, 0, 4040) := ⟨_, rfl, (zt_in (j := 4) (k := 40) rfl rfl)⟩
set_option maxRecDepth 100000 in
theorem zt_e17_26 : zt_eOK "ColumnVaultLaw" (110, 6, 93, 0, 4031) := ⟨_, rfl, (zt_in (j := 4) (k := 31) rfl rfl)⟩
set_option maxRecDepth 100000 in
theorem zt_e17_25 : zt_eOK "ColumnVaultLaw" (107, 6, 87, 0, 4004) := ⟨_, rfl, (zt_in (j := 4) (k := 4) rfl rfl)⟩
set_option maxRecDepth 100000 in
theorem zt_e17_24 : zt_eOK "ColumnVaultLaw" (104, 6, 86, 0, 4000) := ⟨_, rfl, (zt_in (j := 4) (k := 0) rfl rfl)⟩
set_option maxRecDepth 100000 in
theorem zt_e17_23 : zt_eOK "ColumnVaultLaw" (101, 6, 51, 0, 3024) := ⟨_, rfl, (zt_in (j := 3) (k := 24) rfl rfl)⟩
set_option maxRecDepth 100000 in
theorem zt_e17_22 : zt_eOK "ColumnVaultLaw" (98, 6, 48, 0, 3012) := ⟨_, rfl, (zt_in (j := 3) (k := 12) rfl rfl)⟩
set_option maxRecDepth 100000 in
theorem zt_e17_21 : zt_eOK "ColumnVaultLaw" (95, 6, 46, 0, 3003) := ⟨_, rfl, (zt_in (j := 3) (k := 3) rfl rfl)⟩
set_option maxRecDepth 100000 in
theorem zt_e17_20 : zt_eOK "ColumnVaultLaw" (91, 6, 43, 0, 2231) := ⟨_, rfl, (zt_in (j := 2) (k := 231) rfl rfl)⟩
set_option maxRecDepth 100000 in
theorem zt_e17_19 : zt_eOK "ColumnVaultLaw" (87, 6, 37, 0, 2206) := ⟨_, rfl, (zt_in (j := 2) (k := 206) rfl rfl)⟩
set_option maxRecDepth 100000 in
theorem zt_e17_18 : zt_eOK "ColumnVaultLaw" (83, 6, 32, 0, 2182) := ⟨_, rfl, (zt_in (j := 2) (k := 182) rfl rfl)⟩
set_option maxRecDepth 100000 in
theorem zt_e17_17 : zt_eOK "ColumnVaultLaw" (80, 6, 30, 0, 2173) := ⟨_, rfl, (zt_in (j := 2) (k := 173) rfl rfl)⟩
set_option maxRecDepth 100000 in
theorem zt_e17_16 : zt_eOK "ColumnVaultLaw" (76, 6, 22, 0, 2120) := ⟨_, rfl, (zt_in (j := 2) (k := 120) rfl rfl)⟩
set_option maxRecDepth 100000 in
theorem zt_e17_15 : zt_eOK "ColumnVaultLaw" (70, 4, 244, 0, 7009) := ⟨_, rfl, (zt_in (j := 7) (k := 9) rfl rfl)⟩
set_option maxRecDepth 100000 in
theorem zt_e17_14 : zt_eOK "ColumnVaultLaw" (64, 4, 243, 0, 7006) := ⟨_, rfl, (zt_in (j := 7) (k := 6) rfl rfl)⟩
set_option maxRecDepth 100000 in
theorem zt_e17_13 : zt_eOK "ColumnVaultLaw" (60, 6, 214, 0, 6106) := ⟨_, rfl, (zt_in (j := 6) (k := 106) rfl rfl)⟩
set_option maxRecDepth 100000 in
theorem zt_e17_12 : zt_eOK "ColumnVaultLaw" (56, 4, 209, 0, 6088) := ⟨_, rfl, (zt_in (j := 6) (k := 88) rfl rfl)⟩
set_option maxRecDepth 100000 in
theorem zt_e17_11 : zt_eOK "ColumnVaultLaw" (50, 4, 188, 0, 6003) := ⟨_, rfl, (zt_in (j := 6) (k := 3) rfl rfl)⟩
set_option maxRecDepth 100000 in
theorem zt_e17_10 : zt_eOK "ColumnVaultLaw" (46, 4, 130, 0, 4218) := ⟨_, rfl, (zt_in (j := 4) (k := 218) rfl rfl)⟩
set_option maxRecDepth 100000 in
theorem zt_e17_9 : zt_eOK "ColumnVaultLaw" (42, 6, 210, 0, 6091) := ⟨_, rfl, (zt_in (j := 6) (k := 91) rfl rfl)⟩
set_option maxRecDepth 100000 in
theorem zt_e17_8 : zt_eOK "ColumnVaultLaw" (38, 6, 189, 0, 6008) := ⟨_, rfl, (zt_in (j := 6) (k := 8) rfl rfl)⟩
set_option maxRecDepth 100000 in
theorem zt_e17_7 : zt_eOK "ColumnVaultLaw" (31, 2, 0, 6, 8052) := ⟨"java/lang/String", (zt_in (j := 8) (k := 52) rfl rfl), Or.inr rfl, Or.inr rfl⟩
set_option maxRecDepth 100000 in
theorem zt_e17_6 : zt_eOK "ColumnVaultLaw" (30, 6, 179, 0, 6006) := ⟨_, rfl, (zt_in (j := 6) (k := 6) rfl rfl)⟩
set_option maxRecDepth 100000 in
theorem zt_e17_5 : zt_eOK "ColumnVaultLaw" (26, 6, 157, 0, 5103) := ⟨_, rfl, (zt_in (j := 5) (k := 103) rfl rfl)⟩
set_option maxRecDepth 100000 in
theorem zt_e17_4 : zt_eOK "ColumnVaultLaw" (22, 6, 135, 0, 5012) := ⟨_, rfl, (zt_in (j := 5) (k := 12) rfl rfl)⟩
set_option maxRecDepth 100000 in
theorem zt_e17_3 : zt_eOK "ColumnVaultLaw" (16, 4, 20, 0, 2109) := ⟨_, rfl, (zt_in (j := 2) (k := 109) rfl rfl)⟩
set_option maxRecDepth 100000 in
theorem zt_e17_2 : zt_eOK "ColumnVaultLaw" (15, 8, 131, 0, 4223) := ⟨_, rfl, (zt_in (j := 4) (k := 223) rfl rfl)⟩
set_option maxRecDepth 100000 in
theorem zt_e17_1 : zt_eOK "ColumnVaultLaw" (13, 2, 1, 999, 4221) := ⟨"java/lang/StringBuilder", (zt_in (j := 4) (k := 221) rfl rfl), Or.inr rfl, Or.inl rfl⟩
set_option maxRecDepth 100000 in
theorem zt_e17_0 : zt_eOK "ColumnVaultLaw" (1, 2, 12, 999, 1034) := ⟨"ColumnVault", (zt_in (j := 1) (k := 34) rfl rfl), Or.inr rfl, Or.inl rfl⟩
theorem zt_pl17_ok : ∀ e ∈ zt_pl17, zt_eOK "ColumnVaultLaw" e := List.forall_mem_cons.mpr ⟨zt_e17_0, List.forall_mem_cons.mpr ⟨zt_e17_1, List.forall_mem_cons.mpr ⟨zt_e17_2, List.forall_mem_cons.mpr ⟨zt_e17_3, List.forall_mem_cons.mpr ⟨zt_e17_4, List.forall_mem_cons.mpr ⟨zt_e17_5, List.forall_mem_cons.mpr ⟨zt_e17_6, List.forall_mem_cons.mpr ⟨zt_e17_7, List.forall_mem_cons.mpr ⟨zt_e17_8, List.forall_mem_cons.mpr ⟨zt_e17_9, List.forall_mem_cons.mpr ⟨zt_e17_10, List.forall_mem_cons.mpr ⟨zt_e17_11, List.forall_mem_cons.mpr ⟨zt_e17_12, List.forall_mem_cons.mpr ⟨zt_e17_13, List.forall_mem_cons.mpr ⟨zt_e17_14, List.forall_mem_cons.mpr ⟨zt_e17_15, List.forall_mem_cons.mpr ⟨zt_e17_16, List.forall_mem_cons.mpr ⟨zt_e17_17, List.forall_mem_cons.mpr ⟨zt_e17_18, List.forall_mem_cons.mpr ⟨zt_e17_19, List.forall_mem_cons.mpr ⟨zt_e17_20, List.forall_mem_cons.mpr ⟨zt_e17_21, List.forall_mem_cons.mpr ⟨zt_e17_22, List.forall_mem_cons.mpr ⟨zt_e17_23, List.forall_mem_cons.mpr ⟨zt_e17_24, List.forall_mem_cons.mpr ⟨zt_e17_25, List.forall_mem_cons.mpr ⟨zt_e17_26, List.forall_mem_cons.mpr ⟨zt_e17_27, List.forall_mem_cons.mpr ⟨zt_e17_28, List.forall_mem_cons.mpr ⟨zt_e17_29, List.forall_mem_cons.mpr ⟨zt_e17_30, List.forall_mem_cons.mpr ⟨zt_e17_31, List.forall_mem_cons.mpr ⟨zt_e17_32, List.forall_mem_cons.mpr ⟨zt_e17_33, List.forall_mem_cons.mpr ⟨zt_e17_34, List.forall_mem_cons.mpr ⟨zt_e17_35, List.forall_mem_cons.mpr ⟨zt_e17_36, List.forall_mem_cons.mpr ⟨zt_e17_37, List.forall_mem_cons.mpr ⟨zt_e17_38, List.forall_mem_cons.mpr ⟨zt_e17_39, List.forall_mem_cons.mpr ⟨zt_e17_40, List.forall_mem_cons.mpr ⟨zt_e17_41, List.forall_mem_cons.mpr ⟨zt_e17_42, List.forall_mem_cons.mpr ⟨zt_e17_43, List.forall_mem_cons.mpr ⟨zt_e17_44, List.forall_mem_cons.mpr ⟨zt_e17_45, List.forall_mem_cons.mpr ⟨zt_e17_46, List.forall_mem_cons.mpr ⟨zt_e17_47, List.forall_mem_cons.mpr ⟨zt_e17_48, List.forall_mem_cons.mpr ⟨zt_e17_49, List.forall_mem_cons.mpr ⟨zt_e17_50, List.forall_mem_cons.mpr ⟨zt_e17_51, List.forall_mem_cons.mpr ⟨zt_e17_52, List.forall_mem_cons.mpr ⟨zt_e17_53, List.forall_mem_cons.mpr ⟨zt_e17_54, List.forall_mem_cons.mpr ⟨zt_e17_55, List.forall_mem_cons.mpr ⟨zt_e17_56, List.forall_mem_cons.mpr ⟨zt_e17_57, List.forall_mem_cons.mpr ⟨zt_e17_58, List.forall_mem_cons.mpr ⟨zt_e17_59, List.forall_mem_cons.mpr ⟨zt_e17_60, List.forall_mem_cons.mpr ⟨zt_e17_61, List.forall_mem_cons.mpr ⟨zt_e17_62, List.forall_mem_cons.mpr ⟨zt_e17_63, List.forall_mem_cons.mpr ⟨zt_e17_64, List.forall_mem_cons.mpr ⟨zt_e17_65, List.forall_mem_cons.mpr ⟨zt_e17_66, List.forall_mem_cons.mpr ⟨zt_e17_67, List.forall_mem_cons.mpr ⟨zt_e17_68, List.forall_mem_cons.mpr ⟨zt_e17_69, List.forall_mem_cons.mpr ⟨zt_e17_70, List.forall_mem_cons.mpr ⟨zt_e17_71, List.forall_mem_cons.mpr ⟨zt_e17_72, List.forall_mem_cons.mpr ⟨zt_e17_73, List.forall_mem_cons.mpr ⟨zt_e17_74, List.forall_mem_cons.mpr ⟨zt_e17_75, List.forall_mem_cons.mpr ⟨zt_e17_76, List.forall_mem_cons.mpr ⟨zt_e17_77, List.forall_mem_cons.mpr ⟨zt_e17_78, List.forall_mem_cons.mpr ⟨zt_e17_79, List.forall_mem_cons.mpr ⟨zt_e17_80, List.forall_mem_cons.mpr ⟨zt_e17_81, List.forall_mem_cons.mpr ⟨zt_e17_82, List.forall_mem_cons.mpr ⟨zt_e17_83, List.forall_mem_cons.mpr ⟨zt_e17_84, List.forall_mem_cons.mpr ⟨zt_e17_85, List.forall_mem_cons.mpr ⟨zt_e17_86, List.forall_mem_cons.mpr ⟨zt_e17_87, List.forall_mem_cons.mpr ⟨zt_e17_88, List.forall_mem_cons.mpr ⟨zt_e17_89, List.forall_mem_cons.mpr ⟨zt_e17_90, List.forall_mem_cons.mpr ⟨zt_e17_91, List.forall_mem_cons.mpr ⟨zt_e17_92, List.forall_mem_cons.mpr ⟨zt_e17_93, List.forall_mem_cons.mpr ⟨zt_e17_94, List.forall_mem_cons.mpr ⟨zt_e17_95, List.forall_mem_cons.mpr ⟨zt_e17_96, List.forall_mem_cons.mpr ⟨zt_e17_97, List.forall_mem_cons.mpr ⟨zt_e17_98, List.forall_mem_cons.mpr ⟨zt_e17_99, List.forall_mem_cons.mpr ⟨zt_e17_100, List.forall_mem_cons.mpr ⟨zt_e17_101, List.forall_mem_cons.mpr ⟨zt_e17_102, List.forall_mem_cons.mpr ⟨zt_e17_103, List.forall_mem_cons.mpr ⟨zt_e17_104, List.forall_mem_cons.mpr ⟨zt_e17_105, List.forall_mem_cons.mpr ⟨zt_e17_106, List.forall_mem_cons.mpr ⟨zt_e17_107, List.forall_mem_cons.mpr ⟨zt_e17_108, List.forall_mem_cons.mpr ⟨zt_e17_109, List.forall_mem_cons.mpr ⟨zt_e17_110, List.forall_mem_cons.mpr ⟨zt_e17_111, List.forall_mem_cons.mpr ⟨zt_e17_112, List.forall_mem_cons.mpr ⟨zt_e17_113, List.forall_mem_cons.mpr ⟨zt_e17_114, List.forall_mem_cons.mpr ⟨zt_e17_115, List.forall_mem_cons.mpr ⟨zt_e17_116, List.forall_mem_cons.mpr ⟨zt_e17_117, List.forall_mem_cons.mpr ⟨zt_e17_118, List.forall_mem_cons.mpr ⟨zt_e17_119, List.forall_mem_cons.mpr ⟨zt_e17_120, List.forall_mem_cons.mpr ⟨zt_e17_121, List.forall_mem_cons.mpr ⟨zt_e17_122, List.forall_mem_cons.mpr ⟨zt_e17_123, List.forall_mem_cons.mpr ⟨zt_e17_124, List.forall_mem_cons.mpr ⟨zt_e17_125, List.forall_mem_cons.mpr ⟨zt_e17_126, List.forall_mem_cons.mpr ⟨zt_e17_127, List.forall_mem_cons.mpr ⟨zt_e17_128, List.forall_mem_cons.mpr ⟨zt_e17_129, List.forall_mem_cons.mpr ⟨zt_e17_130, List.forall_mem_cons.mpr ⟨zt_e17_131, List.forall_mem_cons.mpr ⟨zt_e17_132, List.forall_mem_cons.mpr ⟨zt_e17_133, List.forall_mem_cons.mpr ⟨zt_e17_134, List.forall_mem_cons.mpr ⟨zt_e17_135, fun _ h => absurd h List.not_mem_nil⟩⟩⟩⟩⟩⟩⟩⟩⟩⟩⟩⟩⟩⟩⟩⟩⟩⟩⟩⟩⟩⟩⟩⟩⟩⟩⟩⟩⟩⟩⟩⟩⟩⟩⟩⟩⟩⟩⟩⟩⟩⟩⟩⟩⟩⟩⟩⟩⟩⟩⟩⟩⟩⟩⟩⟩⟩⟩⟩⟩⟩⟩⟩⟩⟩⟩⟩⟩⟩⟩⟩⟩⟩⟩⟩⟩⟩⟩⟩⟩⟩⟩⟩⟩⟩⟩⟩⟩⟩⟩⟩⟩⟩⟩⟩⟩⟩⟩⟩⟩⟩⟩⟩⟩⟩⟩⟩⟩⟩⟩⟩⟩⟩⟩⟩⟩⟩⟩⟩⟩⟩⟩⟩⟩⟩⟩⟩⟩⟩⟩⟩⟩⟩⟩⟩⟩
set_option maxRecDepth 100000 in
theorem zt_lc17_ok : ∀ e ∈ zt_lc17, Cond.constantLong "ColumnVaultLaw" e.1 e.2.1 ∈ zt_good := List.forall_mem_cons.mpr ⟨(zt_in (j := 4) (k := 204) rfl rfl), List.forall_mem_cons.mpr ⟨(zt_in (j := 4) (k := 205) rfl rfl), List.forall_mem_cons.mpr ⟨(zt_in (j := 4) (k := 206) rfl rfl), List.forall_mem_cons.mpr ⟨(zt_in (j := 4) (k := 207) rfl rfl), List.forall_mem_cons.mpr ⟨(zt_in (j := 6) (k := 7) rfl rfl), List.forall_mem_cons.mpr ⟨(zt_in (j := 6) (k := 64) rfl rfl), List.forall_mem_cons.mpr ⟨(zt_in (j := 7) (k := 184) rfl rfl), List.forall_mem_cons.mpr ⟨(zt_in (j := 8) (k := 144) rfl rfl), List.forall_mem_cons.mpr ⟨(zt_in (j := 8) (k := 156) rfl rfl), List.forall_mem_cons.mpr ⟨(zt_in (j := 8) (k := 169) rfl rfl), List.forall_mem_cons.mpr ⟨(zt_in (j := 8) (k := 173) rfl rfl), List.forall_mem_cons.mpr ⟨(zt_in (j := 8) (k := 174) rfl rfl), List.forall_mem_cons.mpr ⟨(zt_in (j := 8) (k := 175) rfl rfl), List.forall_mem_cons.mpr ⟨(zt_in (j := 8) (k := 176) rfl rfl), List.forall_mem_cons.mpr ⟨(zt_in (j := 8) (k := 177) rfl rfl), List.forall_mem_cons.mpr ⟨(zt_in (j := 8) (k := 178) rfl rfl), fun _ h => absurd h List.not_mem_nil⟩⟩⟩⟩⟩⟩⟩⟩⟩⟩⟩⟩⟩⟩⟩⟩
set_option maxRecDepth 100000 in
theorem zt_e18_3 : zt_eOK "java/lang/Long" (311, 4, 230, 0, 6197) := ⟨_, rfl, (zt_in (j := 6) (k := 197) rfl rfl)⟩
set_option maxRecDepth 100000 in
theorem zt_e18_2 : zt_eOK "java/lang/Long" (308, 4, 228, 0, 6188) := ⟨_, rfl, (zt_in (j := 6) (k := 188) rfl rfl)⟩
set_option maxRecDepth 100000 in
theorem zt_e18_1 : zt_eOK "java/lang/Long" (137, 14, 3, 0, 7135) := ⟨_, rfl, (zt_in (j := 7) (k := 135) rfl rfl)⟩
set_option maxRecDepth 100000 in
theorem zt_e18_0 : zt_eOK "java/lang/Long" (133, 14, 2, 0, 7134) := ⟨_, rfl, (zt_in (j := 7) (k := 134) rfl rfl)⟩
theorem zt_pl18_ok : ∀ e ∈ zt_pl18, zt_eOK "java/lang/Long" e := List.forall_mem_cons.mpr ⟨zt_e18_0, List.forall_mem_cons.mpr ⟨zt_e18_1, List.forall_mem_cons.mpr ⟨zt_e18_2, List.forall_mem_cons.mpr ⟨zt_e18_3, fun _ h => absurd h List.not_mem_nil⟩⟩⟩⟩
set_option maxRecDepth 100000 in
theorem zt_lc18_ok : ∀ e ∈ zt_lc18, Cond.constantLong "java/lang/Long" e.1 e.2.1 ∈ zt_good := List.forall_mem_cons.mpr ⟨(zt_in (j := 2) (k := 58) rfl rfl), List.forall_mem_cons.mpr ⟨(zt_in (j := 2) (k := 59) rfl rfl), List.forall_mem_cons.mpr ⟨(zt_in (j := 2) (k := 60) rfl rfl), List.forall_mem_cons.mpr ⟨(zt_in (j := 7) (k := 127) rfl rfl), List.forall_mem_cons.mpr ⟨(zt_in (j := 7) (k := 128) rfl rfl), List.forall_mem_cons.mpr ⟨(zt_in (j := 7) (k := 132) rfl rfl), List.forall_mem_cons.mpr ⟨(zt_in (j := 7) (k := 133) rfl rfl), fun _ h => absurd h List.not_mem_nil⟩⟩⟩⟩⟩⟩⟩
theorem zt_pl19_ok : ∀ e ∈ zt_pl19, zt_eOK "java/lang/Math" e := fun _ h => absurd h List.not_mem_nil
set_option maxRecDepth 100000 in
theorem zt_lc19_ok : ∀ e ∈ zt_lc19, Cond.constantLong "java/lang/Math" e.1 e.2.1 ∈ zt_good := fun _ h => absurd h List.not_mem_nil
set_option maxRecDepth 100000 in
theorem zt_e20_34 : zt_eOK "java/lang/AbstractStringBuilder" (399, 6, 183, 0, 5209) := ⟨_, rfl, (zt_in (j := 5) (k := 209) rfl rfl)⟩
set_option maxRecDepth 100000 in
theorem zt_e20_33 : zt_eOK "java/lang/AbstractStringBuilder" (397, 15, 182, 0, 5204) := ⟨_, rfl, (zt_in (j := 5) (k := 204) rfl rfl), (zt_in (j := 8) (k := 188) rfl rfl), (zt_inN (j := 5) (k := 205) rfl rfl)⟩
set_option maxRecDepth 100000 in
theorem zt_e20_32 : zt_eOK "java/lang/AbstractStringBuilder" (315, 4, 212, 0, 6098) := ⟨_, rfl, (zt_in (j := 6) (k := 98) rfl rfl)⟩
set_option maxRecDepth 100000 in
theorem zt_e20_31 : zt_eOK "java/lang/AbstractStringBuilder" (309, 17, 0, 0, 6105) := (zt_in (j := 6) (k := 105) rfl rfl)
set_option maxRecDepth 100000 in
theorem zt_e20_30 : zt_eOK "java/lang/AbstractStringBuilder" (283, 15, 213, 0, 6101) := ⟨_, rfl, (zt_in (j := 6) (k := 101) rfl rfl), (zt_in (j := 8) (k := 190) rfl rfl), (zt_inN (j := 6) (k := 102) rfl rfl)⟩
set_option maxRecDepth 100000 in
theorem zt_e20_29 : zt_eOK "java/lang/AbstractStringBuilder" (262, 4, 267, 0, 7136) := ⟨_, rfl, (zt_in (j := 7) (k := 136) rfl rfl)⟩
set_option maxRecDepth 100000 in
theorem zt_e20_28 : zt_eOK "java/lang/AbstractStringBuilder" (259, 4, 266, 0, 7129) := ⟨_, rfl, (zt_in (j := 7) (k := 129) rfl rfl)⟩
set_option maxRecDepth 100000 in
theorem zt_e20_27 : zt_eOK "java/lang/AbstractStringBuilder" (254, 4, 265, 0, 7124) := ⟨_, rfl, (zt_in (j := 7) (k := 124) rfl rfl)⟩
set_option maxRecDepth 100000 in
theorem zt_e20_26 : zt_eOK "java/lang/AbstractStringBuilder" (251, 4, 170, 0, 5159) := ⟨_, rfl, (zt_in (j := 5) (k := 159) rfl rfl)⟩
set_option maxRecDepth 100000 in
theorem zt_e20_25 : zt_eOK "java/lang/AbstractStringBuilder" (248, 4, 169, 0, 5152) := ⟨_, rfl, (zt_in (j := 5) (k := 152) rfl rfl)⟩
set_option maxRecDepth 100000 in
theorem zt_e20_24 : zt_eOK "java/lang/AbstractStringBuilder" (245, 4, 168, 0, 5149) := ⟨_, rfl, (zt_in (j := 5) (k := 149) rfl rfl)⟩
set_option maxRecDepth 100000 in
theorem zt_e20_23 : zt_eOK "java/lang/AbstractStringBuilder" (226, 4, 178, 0, 5188) := ⟨_, rfl, (zt_in (j := 5) (k := 188) rfl rfl)⟩
set_option maxRecDepth 100000 in
theorem zt_e20_22 : zt_eOK "java/lang/AbstractStringBuilder" (208, 15, 181, 0, 5200) := ⟨_, rfl, (zt_in (j := 5) (k := 200) rfl rfl), (zt_in (j := 8) (k := 187) rfl rfl), (zt_inN (j := 5) (k := 201) rfl rfl)⟩
set_option maxRecDepth 100000 in
theorem zt_e20_21 : zt_eOK "java/lang/AbstractStringBuilder" (204, 15, 177, 0, 5184) := ⟨_, rfl, (zt_in (j := 5) (k := 184) rfl rfl), (zt_in (j := 8) (k := 186) rfl rfl), (zt_inN (j := 5) (k := 185) rfl rfl)⟩
set_option maxRecDepth 100000 in
theorem zt_e20_20 : zt_eOK "java/lang/AbstractStringBuilder" (197, 4, 153, 0, 5091) := ⟨_, rfl, (zt_in (j := 5) (k := 91) rfl rfl)⟩
set_option maxRecDepth 100000 in
theorem zt_e20_19 : zt_eOK "java/lang/AbstractStringBuilder" (195, 15, 145, 0, 5058) := ⟨_, rfl, (zt_in (j := 5) (k := 58) rfl rfl), (zt_in (j := 8) (k := 183) rfl rfl), (zt_inN (j := 5) (k := 59) rfl rfl)⟩
set_option maxRecDepth 100000 in
theorem zt_e20_18 : zt_eOK "java/lang/AbstractStringBuilder" (191, 4, 144, 0, 5055) := ⟨_, rfl, (zt_in (j := 5) (k := 55) rfl rfl)⟩
set_option maxRecDepth 100000 in
theorem zt_e20_17 : zt_eOK "java/lang/AbstractStringBuilder" (148, 4, 186, 0, 7183) := ⟨_, rfl, (zt_in (j := 7) (k := 183) rfl rfl)⟩
set_option maxRecDepth 100000 in
theorem zt_e20_16 : zt_eOK "java/lang/AbstractStringBuilder" (144, 4, 155, 0, 7182) := ⟨_, rfl, (zt_in (j := 7) (k := 182) rfl rfl)⟩
set_option maxRecDepth 100000 in
theorem zt_e20_15 : zt_eOK "java/lang/AbstractStringBuilder" (138, 16, 0, 1, 7181) := Or.inr (Or.inl ⟨rfl, (zt_in (j := 7) (k := 181) rfl rfl), (zt_in (j := 5) (k := 47) rfl rfl), (zt_in (j := 1) (k := 17) rfl rfl), (zt_in (j := 5) (k := 48) rfl rfl)⟩)
set_option maxRecDepth 100000 in
theorem zt_e20_14 : zt_eOK "java/lang/AbstractStringBuilder" (125, 4, 146, 0, 5062) := ⟨_, rfl, (zt_in (j := 5) (k := 62) rfl rfl)⟩
set_option maxRecDepth 100000 in
theorem zt_e20_13 : zt_eOK "java/lang/AbstractStringBuilder" (114, 4, 139, 0, 5027) := ⟨_, rfl, (zt_in (j := 5) (k := 27) rfl rfl)⟩
set_option maxRecDepth 100000 in
theorem zt_e20_12 : zt_eOK "java/lang/AbstractStringBuilder" (108, 4, 141, 0, 5036) := ⟨_, rfl, (zt_in (j := 5) (k := 36) rfl rfl)⟩
set_option maxRecDepth 100000 in
theorem zt_e20_11 : zt_eOK "java/lang/AbstractStringBuilder" (104, 15, 138, 0, 5023) := ⟨_, rfl, (zt_in (j := 5) (k := 23) rfl rfl), (zt_in (j := 8) (k := 182) rfl rfl), (zt_inN (j := 5) (k := 24) rfl rfl)⟩
set_option maxRecDepth 100000 in
theorem zt_e20_10 : zt_eOK "java/lang/AbstractStringBuilder" (100, 15, 137, 0, 5019) := ⟨_, rfl, (zt_in (j := 5) (k := 19) rfl rfl), (zt_in (j := 8) (k := 181) rfl rfl), (zt_inN (j := 5) (k := 20) rfl rfl)⟩
set_option maxRecDepth 100000 in
theorem zt_e20_9 : zt_eOK "java/lang/AbstractStringBuilder" (83, 12, 0, 0, 5050) := ⟨_, rfl, (zt_in (j := 5) (k := 50) rfl rfl)⟩
set_option maxRecDepth 100000 in
theorem zt_e20_8 : zt_eOK "java/lang/AbstractStringBuilder" (79, 0, 1, 3, 5002) := ⟨_, "java/lang/AbstractStringBuilder", rfl, by decide, (zt_in (j := 5) (k := 2) rfl rfl), Or.inl rfl⟩
set_option maxRecDepth 100000 in
theorem zt_e20_7 : zt_eOK "java/lang/AbstractStringBuilder" (43, 12, 3, 0, 7089) := ⟨_, rfl, (zt_in (j := 7) (k := 89) rfl rfl)⟩
set_option maxRecDepth 100000 in
theorem zt_e20_6 : zt_eOK "java/lang/AbstractStringBuilder" (40, 6, 180, 0, 5208) := ⟨_, rfl, (zt_in (j := 5) (k := 208) rfl rfl)⟩
set_option maxRecDepth 100000 in
theorem zt_e20_5 : zt_eOK "java/lang/AbstractStringBuilder" (32, 6, 179, 0, 5191) := ⟨_, rfl, (zt_in (j := 5) (k := 191) rfl rfl)⟩
set_option maxRecDepth 100000 in
theorem zt_e20_4 : zt_eOK "java/lang/AbstractStringBuilder" (26, 4, 133, 0, 4232) := ⟨_, rfl, (zt_in (j := 4) (k := 232) rfl rfl)⟩
set_option maxRecDepth 100000 in
theorem zt_e20_3 : zt_eOK "java/lang/AbstractStringBuilder" (22, 0, 1, 1, 5000) := ⟨_, "java/lang/AbstractStringBuilder", rfl, by decide, (zt_in (j := 5) (k := 0) rfl rfl), Or.inl rfl⟩
set_option maxRecDepth 100000 in
theorem zt_e20_2 : zt_eOK "java/lang/AbstractStringBuilder" (18, 14, 0, 0, 4230) := ⟨_, rfl, (zt_in (j := 4) (k := 230) rfl rfl)⟩
set_option maxRecDepth 100000 in
theorem zt_e20_1 : zt_eOK "java/lang/AbstractStringBuilder" (15, 0, 1, 0, 4239) := ⟨_, "java/lang/AbstractStringBuilder", rfl, by decide, (zt_in (j := 4) (k := 239) rfl rfl), Or.inl rfl⟩
set_option maxRecDepth 100000 in
theorem zt_e20_0 : zt_eOK "java/lang/AbstractStringBuilder" (3, 10, 0, 0, 4229) := (zt_in (j := 4) (k := 229) rfl rfl)
theorem zt_pl20_ok : ∀ e ∈ zt_pl20, zt_eOK "java/lang/AbstractStringBuilder" e := List.forall_mem_cons.mpr ⟨zt_e20_0, List.forall_mem_cons.mpr ⟨zt_e20_1, List.forall_mem_cons.mpr ⟨zt_e20_2, List.forall_mem_cons.mpr ⟨zt_e20_3, List.forall_mem_cons.mpr ⟨zt_e20_4, List.forall_mem_cons.mpr ⟨zt_e20_5, List.forall_mem_cons.mpr ⟨zt_e20_6, List.forall_mem_cons.mpr ⟨zt_e20_7, List.forall_mem_cons.mpr ⟨zt_e20_8, List.forall_mem_cons.mpr ⟨zt_e20_9, List.forall_mem_cons.mpr ⟨zt_e20_10, List.forall_mem_cons.mpr ⟨zt_e20_11, List.forall_mem_cons.mpr ⟨zt_e20_12, List.forall_mem_cons.mpr ⟨zt_e20_13, List.forall_mem_cons.mpr ⟨zt_e20_14, List.forall_mem_cons.mpr ⟨zt_e20_15, List.forall_mem_cons.mpr ⟨zt_e20_16, List.forall_mem_cons.mpr ⟨zt_e20_17, List.forall_mem_cons.mpr ⟨zt_e20_18, List.forall_mem_cons.mpr ⟨zt_e20_19, List.forall_mem_cons.mpr ⟨zt_e20_20, List.forall_mem_cons.mpr ⟨zt_e20_21, List.forall_mem_cons.mpr ⟨zt_e20_22, List.forall_mem_cons.mpr ⟨zt_e20_23, List.forall_mem_cons.mpr ⟨zt_e20_24, List.forall_mem_cons.mpr ⟨zt_e20_25, List.forall_mem_cons.mpr ⟨zt_e20_26, List.forall_mem_cons.mpr ⟨zt_e20_27, List.forall_mem_cons.mpr ⟨zt_e20_28, List.forall_mem_cons.mpr ⟨zt_e20_29, List.forall_mem_cons.mpr ⟨zt_e20_30, List.forall_mem_cons.mpr ⟨zt_e20_31, List.forall_mem_cons.mpr ⟨zt_e20_32, List.forall_mem_cons.mpr ⟨zt_e20_33, List.forall_mem_cons.mpr ⟨zt_e20_34, fun _ h => absurd h List.not_mem_nil⟩⟩⟩⟩⟩⟩⟩⟩⟩⟩⟩⟩⟩⟩⟩⟩⟩⟩⟩⟩⟩⟩⟩⟩⟩⟩⟩⟩⟩⟩⟩⟩⟩⟩⟩
set_option maxRecDepth 100000 in
theorem zt_lc20_ok : ∀ e ∈ zt_lc20, Cond.constantLong "java/lang/AbstractStringBuilder" e.1 e.2.1 ∈ zt_good := fun _ h => absurd h List.not_mem_nil
set_option maxRecDepth 100000 in
theorem zt_e21_18 : zt_eOK "java/lang/StringUTF16" (419, 4, 150, 0, 5074) := ⟨_, rfl, (zt_in (j := 5) (k := 74) rfl rfl)⟩
set_option maxRecDepth 100000 in
theorem zt_e21_17 : zt_eOK "java/lang/StringUTF16" (414, 4, 155, 0, 5097) := ⟨_, rfl, (zt_in (j := 5) (k := 97) rfl rfl)⟩
set_option maxRecDepth 100000 in
theorem zt_e21_16 : zt_eOK "java/lang/StringUTF16" (407, 14, 3, 0, 5175) := ⟨_, rfl, (zt_in (j := 5) (k := 175) rfl rfl)⟩
set_option maxRecDepth 100000 in
theorem zt_e21_15 : zt_eOK "java/lang/StringUTF16" (403, 14, 2, 0, 5174) := ⟨_, rfl, (zt_in (j := 5) (k := 174) rfl rfl)⟩
set_option maxRecDepth 100000 in
theorem zt_e21_14 : zt_eOK "java/lang/StringUTF16" (396, 4, 268, 0, 7139) := ⟨_, rfl, (zt_in (j := 7) (k := 139) rfl rfl)⟩
set_option maxRecDepth 100000 in
theorem zt_e21_13 : zt_eOK "java/lang/StringUTF16" (393, 4, 174, 0, 5171) := ⟨_, rfl, (zt_in (j := 5) (k := 171) rfl rfl)⟩
set_option maxRecDepth 100000 in
theorem zt_e21_12 : zt_eOK "java/lang/StringUTF16" (241, 4, 172, 0, 5165) := ⟨_, rfl, (zt_in (j := 5) (k := 165) rfl rfl)⟩
set_option maxRecDepth 100000 in
theorem zt_e21_11 : zt_eOK "java/lang/StringUTF16" (189, 4, 239, 0, 7005) := ⟨_, rfl, (zt_in (j := 7) (k := 5) rfl rfl)⟩
set_option maxRecDepth 100000 in
theorem zt_e21_10 : zt_eOK "java/lang/StringUTF16" (183, 16, 0, 1, 6230) := Or.inr (Or.inl ⟨rfl, (zt_in (j := 6) (k := 230) rfl rfl), (zt_in (j := 5) (k := 47) rfl rfl), (zt_in (j := 1) (k := 17) rfl rfl), (zt_in (j := 5) (k := 48) rfl rfl)⟩)
set_option maxRecDepth 100000 in
theorem zt_e21_9 : zt_eOK "java/lang/StringUTF16" (176, 4, 238, 0, 6227) := ⟨_, rfl, (zt_in (j := 6) (k := 227) rfl rfl)⟩
set_option maxRecDepth 100000 in
theorem zt_e21_8 : zt_eOK "java/lang/StringUTF16" (173, 4, 148, 0, 5068) := ⟨_, rfl, (zt_in (j := 5) (k := 68) rfl rfl)⟩
set_option maxRecDepth 100000 in
theorem zt_e21_7 : zt_eOK "java/lang/StringUTF16" (126, 4, 163, 0, 5226) := ⟨_, rfl, (zt_in (j := 5) (k := 226) rfl rfl)⟩
set_option maxRecDepth 100000 in
theorem zt_e21_6 : zt_eOK "java/lang/StringUTF16" (123, 4, 185, 0, 5220) := ⟨_, rfl, (zt_in (j := 5) (k := 220) rfl rfl)⟩
set_option maxRecDepth 100000 in
theorem zt_e21_5 : zt_eOK "java/lang/StringUTF16" (111, 4, 152, 0, 5082) := ⟨_, rfl, (zt_in (j := 5) (k := 82) rfl rfl)⟩
set_option maxRecDepth 100000 in
theorem zt_e21_4 : zt_eOK "java/lang/StringUTF16" (96, 4, 171, 0, 5162) := ⟨_, rfl, (zt_in (j := 5) (k := 162) rfl rfl)⟩
set_option maxRecDepth 100000 in
theorem zt_e21_3 : zt_eOK "java/lang/StringUTF16" (71, 4, 186, 0, 5223) := ⟨_, rfl, (zt_in (j := 5) (k := 223) rfl rfl)⟩
set_option maxRecDepth 100000 in
theorem zt_e21_2 : zt_eOK "java/lang/StringUTF16" (67, 4, 154, 0, 5094) := ⟨_, rfl, (zt_in (j := 5) (k := 94) rfl rfl)⟩
set_option maxRecDepth 100000 in
theorem zt_e21_1 : zt_eOK "java/lang/StringUTF16" (48, 4, 149, 0, 5071) := ⟨_, rfl, (zt_in (j := 5) (k := 71) rfl rfl)⟩
set_option maxRecDepth 100000 in
theorem zt_e21_0 : zt_eOK "java/lang/StringUTF16" (11, 4, 134, 0, 4235) := ⟨_, rfl, (zt_in (j := 4) (k := 235) rfl rfl)⟩
theorem zt_pl21_ok : ∀ e ∈ zt_pl21, zt_eOK "java/lang/StringUTF16" e := List.forall_mem_cons.mpr ⟨zt_e21_0, List.forall_mem_cons.mpr ⟨zt_e21_1, List.forall_mem_cons.mpr ⟨zt_e21_2, List.forall_mem_cons.mpr ⟨zt_e21_3, List.forall_mem_cons.mpr ⟨zt_e21_4, List.forall_mem_cons.mpr ⟨zt_e21_5, List.forall_mem_cons.mpr ⟨zt_e21_6, List.forall_mem_cons.mpr ⟨zt_e21_7, List.forall_mem_cons.mpr ⟨zt_e21_8, List.forall_mem_cons.mpr ⟨zt_e21_9, List.forall_mem_cons.mpr ⟨zt_e21_10, List.forall_mem_cons.mpr ⟨zt_e21_11, List.forall_mem_cons.mpr ⟨zt_e21_12, List.forall_mem_cons.mpr ⟨zt_e21_13, List.forall_mem_cons.mpr ⟨zt_e21_14, List.forall_mem_cons.mpr ⟨zt_e21_15, List.forall_mem_cons.mpr ⟨zt_e21_16, List.forall_mem_cons.mpr ⟨zt_e21_17, List.forall_mem_cons.mpr ⟨zt_e21_18, fun _ h => absurd h List.not_mem_nil⟩⟩⟩⟩⟩⟩⟩⟩⟩⟩⟩⟩⟩⟩⟩⟩⟩⟩⟩
set_option maxRecDepth 100000 in
theorem zt_lc21_ok : ∀ e ∈ zt_lc21, Cond.constantLong "java/lang/StringUTF16" e.1 e.2.1 ∈ zt_good := List.forall_mem_cons.mpr ⟨(zt_in (j := 7) (k := 142) rfl rfl), List.forall_mem_cons.mpr ⟨(zt_in (j := 7) (k := 143) rfl rfl), fun _ h => absurd h List.not_mem_nil⟩⟩
set_option maxRecDepth 100000 in
theorem zt_e22_8 : zt_eOK "jdk/internal/util/ArraysSupport" (201, 4, 140, 0, 5032) := ⟨_, rfl, (zt_in (j := 5) (k := 32) rfl rfl)⟩
set_option maxRecDepth 100000 in
theorem zt_e22_7 : zt_eOK "jdk/internal/util/ArraysSupport" (194, 16, 0, 0, 5030) := Or.inl ⟨rfl, (zt_in (j := 5) (k := 30) rfl rfl), (zt_in (j := 3) (k := 109) rfl rfl), (zt_in (j := 1) (k := 17) rfl rfl), (zt_in (j := 3) (k := 110) rfl rfl)⟩
set_option maxRecDepth 100000 in
theorem zt_e22_6 : zt_eOK "jdk/internal/util/ArraysSupport" (122, 4, 218, 0, 6124) := ⟨_, rfl, (zt_in (j := 6) (k := 124) rfl rfl)⟩
