set_option maxHeartbeats 1000000 in
def f_ColumnVault_running (p0 : Nat) (p1 : Int32) (p2 : Int32) (p3 : Int32) (h : zx_H) : Option ((Int64 ⊕ Nat) × zx_H) :=
  zf_b (zf_is 12 p0 h) fun _ =>
  zf_b3 (f_ColumnVault_sheetWith p0 p1 p2 h) fun v1 h2 =>
  zf_b3 (f_ColumnVault_requirePlace v1 p3 h2) fun _ h5 =>
  zf_b3 (f_ColumnVault_requireNumbers v1 p2 h5) fun _ h8 =>
  zf_b (zf_is 10 v1 h8) fun _ =>
  zf_b2 (f_Sheet_rowsUpTo v1 p3 h8) fun v10 h11 =>
  zf_b (zf_is 10 v1 h11) fun _ =>
  zf_b2 (f_Sheet_sumOf v1 p2 v10 h11) fun v12 h13 =>
  some (.inl v12, h13)
set_option maxHeartbeats 4000000 in
set_option maxRecDepth 400000 in
theorem t_f_ColumnVault_running {sc : (Nat × (Nat → Int32)) × Bool} {d : Nat} (p0 : Nat) (p1 : Int32) (p2 : Int32) (p3 : Int32) (h : zx_H) (r : (Int64 ⊕ Nat)) (h' : zx_H) (hf : f_ColumnVault_running p0 p1 p2 p3 h = some (r, h')) : zx_T sc (d + 3) 124 (0, [(0, .ref p0), (1, .int p1), (2, .int p2), (3, .int p3)], []) h (zf_oJx r) h' := by
  unfold f_ColumnVault_running at hf
  refine zv_p (k := 3) (f' := (3, [(0, .ref p0), (1, .int p1), (2, .int p2), (3, .int p3)], [.int p2, .int p1, .ref p0])) zq_124 zo_124 (by with_unfolding_all rfl) ?_
  replace hf := zf_be hf
  obtain ⟨_, ho, hf⟩ := hf
  replace hf := zf_b3e hf
  obtain ⟨v1, h2, hv, hf⟩ | ⟨E3, h2, hv, hf⟩ := hf
  rotate_left
  · cases hf; exact zv_cx zq_124 zo_124 rfl rfl rfl rfl rfl (zv_cv rfl rfl rfl (zf_ise ho) rfl) (t_f_ColumnVault_sheetWith _ _ _ _ _ _ hv) rfl
  refine zv_c zq_124 zo_124 rfl rfl rfl rfl rfl (zv_cv rfl rfl rfl (zf_ise ho) rfl) (t_f_ColumnVault_sheetWith _ _ _ _ _ _ hv) ?_
  refine zv_p (k := 3) (f' := (11, [(4, .ref v1), (0, .ref p0), (1, .int p1), (2, .int p2), (3, .int p3)], [.int p3, .ref v1])) zq_124 zo_124 (by with_unfolding_all rfl) ?_
  replace hf := zf_b3e hf
  obtain ⟨v4, h5, hv, hf⟩ | ⟨E6, h5, hv, hf⟩ := hf
  rotate_left
  · cases hf; exact zv_cx zq_124 zo_124 rfl rfl rfl rfl rfl rfl (t_f_ColumnVault_requirePlace _ _ _ _ _ hv) rfl
  refine zv_c zq_124 zo_124 rfl rfl rfl rfl rfl rfl (t_f_ColumnVault_requirePlace _ _ _ _ _ hv) ?_
  refine zv_p (k := 2) (f' := (17, [(4, .ref v1), (0, .ref p0), (1, .int p1), (2, .int p2), (3, .int p3)], [.int p2, .ref v1])) zq_124 zo_124 (by with_unfolding_all rfl) ?_
  replace hf := zf_b3e hf
  obtain ⟨v7, h8, hv, hf⟩ | ⟨E9, h8, hv, hf⟩ := hf
  rotate_left
  · cases hf; exact zv_cx zq_124 zo_124 rfl rfl rfl rfl rfl rfl (t_f_ColumnVault_requireNumbers _ _ _ _ _ hv) rfl
  refine zv_c zq_124 zo_124 rfl rfl rfl rfl rfl rfl (t_f_ColumnVault_requireNumbers _ _ _ _ _ hv) ?_
  refine zv_p (k := 4) (f' := (26, [(4, .ref v1), (0, .ref p0), (1, .int p1), (2, .int p2), (3, .int p3)], [.int p3, .ref v1, .int p2, .ref v1])) zq_124 zo_124 (by with_unfolding_all rfl) ?_
  replace hf := zf_be hf
  obtain ⟨_, ho, hf⟩ := hf
  replace hf := zf_b2e hf
  obtain ⟨v10, h11, hv, hf⟩ := hf
  refine zv_c zq_124 zo_124 rfl rfl rfl rfl rfl (zv_cv rfl rfl rfl (zf_ise ho) rfl) (t_f_Sheet_rowsUpTo _ _ _ _ _ hv) ?_
  replace hf := zf_be hf
  obtain ⟨_, ho, hf⟩ := hf
  replace hf := zf_b2e hf
  obtain ⟨v12, h13, hv, hf⟩ := hf
  refine zv_c zq_124 zo_124 rfl rfl rfl rfl rfl (zv_cv rfl rfl rfl (zf_ise ho) rfl) (t_f_Sheet_sumOf _ _ _ _ _ _ hv) ?_
  cases hf
  exact zv_r zq_124 zo_124 rfl rfl rfl rfl rfl
/-! ColumnVaultLaw.asks (LColumnVault;IIIJ)J -/
noncomputable def zI_21 : zd_T := [[(0, .iload_n 1, 1), (1, .tableswitch 307 0 20 #[99, 107, 114, 128, 146, 156, 163, 171, 179, 186, 199, 207, 214, 224, 236, 248, 258, 268, 276, 287, 297], 99)], [], [], [(100, .aload_n 0, 1), (101, .iload_n 2, 1), (102, .iload_n 3, 1), (103, .invokevirtual 76, 3), (106, .i2l, 1), (107, .lreturn, 1), (108, .aload_n 0, 1), (109, .iload_n 2, 1), (110, .invokevirtual 80, 3), (113, .i2l, 1), (114, .lreturn, 1), (115, .aload_n 0, 1), (116, .iload_n 2, 1), (117, .iload_n 3, 1), (118, .lload 4, 2), (120, .l2i, 1), (121, .bipush 7, 2), (123, .iconst 3, 1), (124, .invokevirtual 83, 3), (127, .i2l, 1)], [(128, .lreturn, 1), (129, .aload_n 0, 1), (130, .iload_n 2, 1), (131, .iconst 0, 1), (132, .iload_n 3, 1), (133, .lload 4, 2), (135, .invokevirtual 87, 3), (138, .ifCond .eq 7, 3), (141, .lconst 1, 1), (142, .goto 4, 3), (145, .lconst 0, 1), (146, .lreturn, 1), (147, .aload_n 0, 1), (148, .iload_n 2, 1), (149, .iload_n 3, 1), (150, .lload 4, 2), (152, .l2i, 1), (153, .invokevirtual 91, 3), (156, .lreturn, 1), (157, .aload_n 0, 1), (158, .iload_n 2, 1), (159, .invokevirtual 95, 3)], [(162, .i2l, 1), (163, .lreturn, 1), (164, .aload_n 0, 1), (165, .iload_n 2, 1), (166, .iload_n 3, 1), (167, .invokevirtual 98, 3), (170, .i2l, 1), (171, .lreturn, 1), (172, .aload_n 0, 1), (173, .iload_n 2, 1), (174, .iload_n 3, 1), (175, .invokevirtual 101, 3), (178, .i2l, 1), (179, .lreturn, 1), (180, .aload_n 0, 1), (181, .iload_n 2, 1), (182, .invokevirtual 104, 3), (185, .i2l, 1), (186, .lreturn, 1), (187, .aload_n 0, 1), (188, .iload_n 2, 1), (189, .iload_n 3, 1), (190, .iload_n 2, 1), (191, .lload 4, 2)], [(193, .l2i, 1), (194, .iconst 0, 1), (195, .invokevirtual 107, 3), (198, .i2l, 1), (199, .lreturn, 1), (200, .aload_n 0, 1), (201, .iload_n 2, 1), (202, .iconst 0, 1), (203, .invokevirtual 110, 3), (206, .i2l, 1), (207, .lreturn, 1), (208, .aload_n 0, 1), (209, .iload_n 2, 1), (210, .iload_n 3, 1), (211, .invokevirtual 114, 3), (214, .lreturn, 1), (215, .aload_n 0, 1), (216, .iload_n 2, 1), (217, .iload_n 3, 1), (218, .lload 4, 2), (220, .l2i, 1), (221, .invokevirtual 118, 3)], [(224, .lreturn, 1), (225, .aload_n 0, 1), (226, .iload_n 2, 1), (227, .iload_n 3, 1), (228, .iload_n 3, 1), (229, .lload 4, 2), (231, .l2i, 1), (232, .invokevirtual 121, 3), (235, .i2l, 1), (236, .lreturn, 1), (237, .aload_n 0, 1), (238, .iload_n 2, 1), (239, .iload_n 3, 1), (240, .lload 4, 2), (242, .lload 4, 2), (244, .invokevirtual 125, 3), (247, .i2l, 1), (248, .lreturn, 1), (249, .aload_n 0, 1), (250, .iload_n 2, 1), (251, .iload_n 3, 1), (252, .lload 4, 2), (254, .iconst 1, 1), (255, .invokevirtual 129, 3)], [(258, .lreturn, 1), (259, .aload_n 0, 1), (260, .iload_n 2, 1), (261, .iload_n 3, 1), (262, .lload 4, 2), (264, .iconst 0, 1), (265, .invokevirtual 129, 3), (268, .lreturn, 1), (269, .aload_n 0, 1), (270, .lload 4, 2), (272, .invokevirtual 133, 3), (275, .i2l, 1), (276, .lreturn, 1), (277, .aload_n 0, 1), (278, .iload_n 2, 1), (279, .iload_n 3, 1), (280, .lload 4, 2), (282, .l2i, 1), (283, .invokevirtual 137, 3), (286, .i2l, 1), (287, .lreturn, 1)], [(288, .aload_n 0, 1), (289, .iload_n 2, 1), (290, .iload_n 3, 1), (291, .lload 4, 2), (293, .l2i, 1), (294, .invokevirtual 141, 3), (297, .lreturn, 1), (298, .aload_n 0, 1), (299, .iload_n 2, 1), (300, .iload_n 3, 1), (301, .lload 4, 2), (303, .l2i, 1), (304, .invokevirtual 144, 3), (307, .lreturn, 1), (308, .aload_n 0, 1), (309, .iload_n 2, 1), (310, .iload_n 3, 1), (311, .invokevirtual 147, 3), (314, .i2l, 1), (315, .lreturn, 1), (316, .astore 6, 2), (318, .ldc2_w 152, 3)], [(321, .lreturn, 1), (322, .astore 6, 2), (324, .ldc2_w 156, 3), (327, .lreturn, 1), (328, .astore 6, 2), (330, .ldc2_w 160, 3), (333, .lreturn, 1), (334, .astore 6, 2), (336, .ldc2_w 164, 3), (339, .lreturn, 1)]]
theorem zo_21 : zd_of 21 = some zI_21 := rfl
set_option maxRecDepth 100000 in
theorem zq_21 : zt_m[21]? = some (⟨"ColumnVaultLaw", "asks", "(LColumnVault;IIIJ)J"⟩, method_9_code, 7, some (.long), [(0, 107, 316, 150), (108, 114, 316, 150), (115, 128, 316, 150), (129, 146, 316, 150), (147, 156, 316, 150), (157, 163, 316, 150), (164, 171, 316, 150), (172, 179, 316, 150), (180, 186, 316, 150), (187, 199, 316, 150), (200, 207, 316, 150), (208, 214, 316, 150), (215, 224, 316, 150), (225, 236, 316, 150), (237, 248, 316, 150), (249, 258, 316, 150), (259, 268, 316, 150), (269, 276, 316, 150), (277, 287, 316, 150), (288, 297, 316, 150), (298, 307, 316, 150), (308, 315, 316, 150), (0, 107, 322, 154), (108, 114, 322, 154), (115, 128, 322, 154), (129, 146, 322, 154), (147, 156, 322, 154), (157, 163, 322, 154), (164, 171, 322, 154), (172, 179, 322, 154), (180, 186, 322, 154), (187, 199, 322, 154), (200, 207, 322, 154), (208, 214, 322, 154), (215, 224, 322, 154), (225, 236, 322, 154), (237, 248, 322, 154), (249, 258, 322, 154), (259, 268, 322, 154), (269, 276, 322, 154), (277, 287, 322, 154), (288, 297, 322, 154), (298, 307, 322, 154), (308, 315, 322, 154), (0, 107, 328, 158), (108, 114, 328, 158), (115, 128, 328, 158), (129, 146, 328, 158), (147, 156, 328, 158), (157, 163, 328, 158), (164, 171, 328, 158), (172, 179, 328, 158), (180, 186, 328, 158), (187, 199, 328, 158), (200, 207, 328, 158), (208, 214, 328, 158), (215, 224, 328, 158), (225, 236, 328, 158), (237, 248, 328, 158), (249, 258, 328, 158), (259, 268, 328, 158), (269, 276, 328, 158), (277, 287, 328, 158), (288, 297, 328, 158), (298, 307, 328, 158), (308, 315, 328, 158), (0, 107, 334, 162), (108, 114, 334, 162), (115, 128, 334, 162), (129, 146, 334, 162), (147, 156, 334, 162), (157, 163, 334, 162), (164, 171, 334, 162), (172, 179, 334, 162), (180, 186, 334, 162), (187, 199, 334, 162), (200, 207, 334, 162), (208, 214, 334, 162), (215, 224, 334, 162), (225, 236, 334, 162), (237, 248, 334, 162), (249, 258, 334, 162), (259, 268, 334, 162), (269, 276, 334, 162), (277, 287, 334, 162), (288, 297, 334, 162), (298, 307, 334, 162), (308, 315, 334, 162)], 17, 5, 0, 1, 99999, 0) := rfl
