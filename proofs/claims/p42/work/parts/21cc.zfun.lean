set_option maxHeartbeats 1000000 in
def f_ColumnVaultLaw_isGrouped (p0 : Nat) (p1 : Nat) (p2 : Int32) (h : zx_H) : Option ((Int32 ⊕ Nat) × zx_H) :=
  zf_b (zf_is 12 p0 h) fun _ =>
  zf_b3 (f_ColumnVault_size p0 p2 (1 : Int32) h) fun v1 h2 =>
  zf_b2 (f_ColumnVaultLaw_draw p1 v1 h2) fun v4 h5 =>
  zf_b2 (f_ColumnVaultLaw_draw p1 v1 h5) fun v6 h7 =>
  zf_b (zf_is 12 p0 h7) fun _ =>
  zf_b3 (f_ColumnVault_kind p0 p2 v6 h7) fun v8 h9 =>
  if ¬ v8 = 0 then
    f_ColumnVaultLaw_isGrouped_36 p0 p1 p2 v4 v6 (0 : Int32) h9
  else
    f_ColumnVaultLaw_isGrouped_36 p0 p1 p2 v4 v6 (1 : Int32) h9
set_option maxHeartbeats 4000000 in
set_option maxRecDepth 400000 in
theorem t_f_ColumnVaultLaw_isGrouped {sc : (Nat × (Nat → Int32)) × Bool} {d : Nat} (p0 : Nat) (p1 : Nat) (p2 : Int32) (h : zx_H) (r : (Int32 ⊕ Nat)) (h' : zx_H) (hf : f_ColumnVaultLaw_isGrouped p0 p1 p2 h = some (r, h')) : zx_T sc (d + 125) 293 (0, [(0, .ref p0), (1, .ref p1), (2, .int p2)], []) h (zf_oIx r) h' := by
  unfold f_ColumnVaultLaw_isGrouped at hf
  refine zv_p (k := 3) (f' := (3, [(0, .ref p0), (1, .ref p1), (2, .int p2)], [.int (1 : Int32), .int p2, .ref p0])) zq_293 zo_293 (by with_unfolding_all rfl) ?_
  replace hf := zf_be hf
  obtain ⟨_, ho, hf⟩ := hf
  replace hf := zf_b3e hf
  obtain ⟨v1, h2, hv, hf⟩ | ⟨E3, h2, hv, hf⟩ := hf
  rotate_left
  · cases hf; exact zv_cx zq_293 zo_293 rfl rfl rfl rfl rfl (zv_cv rfl rfl rfl (zf_ise ho) rfl) (t_f_ColumnVault_size _ _ _ _ _ _ hv) rfl
  refine zv_c zq_293 zo_293 rfl rfl rfl rfl rfl (zv_cv rfl rfl rfl (zf_ise ho) rfl) (t_f_ColumnVault_size _ _ _ _ _ _ hv) ?_
  refine zv_p (k := 3) (f' := (9, [(3, .int v1), (0, .ref p0), (1, .ref p1), (2, .int p2)], [.int v1, .ref p1])) zq_293 zo_293 (by with_unfolding_all rfl) ?_
  replace hf := zf_b2e hf
  obtain ⟨v4, h5, hv, hf⟩ := hf
  refine zv_c zq_293 zo_293 rfl rfl rfl rfl rfl rfl (t_f_ColumnVaultLaw_draw _ _ _ _ _ hv) ?_
  refine zv_p (k := 3) (f' := (16, [(4, .int v4), (3, .int v1), (0, .ref p0), (1, .ref p1), (2, .int p2)], [.int v1, .ref p1])) zq_293 zo_293 (by with_unfolding_all rfl) ?_
  replace hf := zf_b2e hf
  obtain ⟨v6, h7, hv, hf⟩ := hf
  refine zv_c zq_293 zo_293 rfl rfl rfl rfl rfl rfl (t_f_ColumnVaultLaw_draw _ _ _ _ _ hv) ?_
  refine zv_p (k := 4) (f' := (25, [(5, .int v6), (4, .int v4), (3, .int v1), (0, .ref p0), (1, .ref p1), (2, .int p2)], [.int v6, .int p2, .ref p0])) zq_293 zo_293 (by with_unfolding_all rfl) ?_
  replace hf := zf_be hf
  obtain ⟨_, ho, hf⟩ := hf
  replace hf := zf_b3e hf
  obtain ⟨v8, h9, hv, hf⟩ | ⟨E10, h9, hv, hf⟩ := hf
  rotate_left
  · cases hf; exact zv_cx zq_293 zo_293 rfl rfl rfl rfl rfl (zv_cv rfl rfl rfl (zf_ise ho) rfl) (t_f_ColumnVault_kind _ _ _ _ _ _ hv) rfl
  refine zv_c zq_293 zo_293 rfl rfl rfl rfl rfl (zv_cv rfl rfl rfl (zf_ise ho) rfl) (t_f_ColumnVault_kind _ _ _ _ _ _ hv) ?_
  replace hf := zf_ite hf
  obtain ⟨hc, hf⟩ | ⟨hc, hf⟩ := hf
  · refine zv_brT (off := 7) (tt := 35) (r := []) zq_293 zo_293 hc rfl rfl rfl ?_
    refine zv_p (k := 1) (f' := (36, [(5, .int v6), (4, .int v4), (3, .int v1), (0, .ref p0), (1, .ref p1), (2, .int p2)], [.int (0 : Int32)])) zq_293 zo_293 (by with_unfolding_all rfl) ?_
    refine zv_pick (lv' := [(0, .ref p0), (1, .ref p1), (2, .int p2), (4, .int v4), (5, .int v6)]) [0, 1, 2, 4, 5] rfl rfl ?_
    exact t_f_ColumnVaultLaw_isGrouped_36 _ _ _ _ _ _ _ _ _ hf
  · refine zv_brF (off := 7) (tt := 35) (r := []) zq_293 zo_293 hc rfl rfl rfl ?_
    refine zv_p (k := 2) (f' := (36, [(5, .int v6), (4, .int v4), (3, .int v1), (0, .ref p0), (1, .ref p1), (2, .int p2)], [.int (1 : Int32)])) zq_293 zo_293 (by with_unfolding_all rfl) ?_
    refine zv_pick (lv' := [(0, .ref p0), (1, .ref p1), (2, .int p2), (4, .int v4), (5, .int v6)]) [0, 1, 2, 4, 5] rfl rfl ?_
    exact t_f_ColumnVaultLaw_isGrouped_36 _ _ _ _ _ _ _ _ _ hf
/-! ColumnVault.previous (III)I -/
noncomputable def zI_297 : zd_T := [[(0, .aload_n 0, 1), (1, .iload_n 1, 1), (2, .iload_n 2, 1), (3, .invokevirtual 91, 3), (6, .astore 4, 2), (8, .aload 4, 2), (10, .iload_n 3, 1), (11, .invokestatic 108, 3), (14, .aload 4, 2), (16, .iload_n 3, 1), (17, .invokevirtual 175, 3), (20, .istore 5, 2), (22, .aload 4, 2), (24, .aload 4, 2), (26, .iload_n 2, 1), (27, .aload 4, 2), (29, .iload_n 2, 1), (30, .iload_n 3, 1), (31, .invokevirtual 118, 3)], [(34, .invokevirtual 315, 3), (37, .aload 4, 2), (39, .iload 5, 2), (41, .iconst 1, 1), (42, .isub, 1), (43, .invokevirtual 304, 3), (46, .land, 1), (47, .invokevirtual 289, 3), (50, .ireturn, 1)]]
theorem zo_297 : zd_of 297 = some zI_297 := rfl
set_option maxRecDepth 100000 in
theorem zq_297 : zt_m[297]? = some (⟨"ColumnVault", "previous", "(III)I"⟩, prog_1_method_34_code, 6, some (.int), [], 12, 3, 0, 0, 0, 0) := rfl
set_option maxHeartbeats 1000000 in
def f_ColumnVault_previous (p0 : Nat) (p1 : Int32) (p2 : Int32) (p3 : Int32) (h : zx_H) : Option ((Int32 ⊕ Nat) × zx_H) :=
  zf_b (zf_is 12 p0 h) fun _ =>
  zf_b3 (f_ColumnVault_sheetWith p0 p1 p2 h) fun v1 h2 =>
  zf_b3 (f_ColumnVault_requireRow v1 p3 h2) fun _ h5 =>
  zf_b (zf_is 10 v1 h5) fun _ =>
  zf_b2 (f_Sheet_placeInOrder v1 p3 h5) fun v7 h8 =>
  zf_b (zf_is 10 v1 h8) fun _ =>
  zf_b2 (f_Sheet_keyAt v1 p2 p3 h8) fun v9 h10 =>
  zf_b (zf_is 10 v1 h10) fun _ =>
  zf_b2 (f_Sheet_rowsWith v1 p2 v9 h10) fun v11 h12 =>
  zf_b (zf_is 10 v1 h12) fun _ =>
  zf_b2 (f_Sheet_rowsUpTo v1 (v7 - (1 : Int32)) h12) fun v13 h14 =>
  zf_b (zf_is 10 v1 h14) fun _ =>
  zf_b2 (f_Sheet_lastOf v1 (v11 &&& v13) h14) fun v15 h16 =>
  some (.inl v15, h16)
set_option maxHeartbeats 4000000 in
set_option maxRecDepth 400000 in
theorem t_f_ColumnVault_previous {sc : (Nat × (Nat → Int32)) × Bool} {d : Nat} (p0 : Nat) (p1 : Int32) (p2 : Int32) (p3 : Int32) (h : zx_H) (r : (Int32 ⊕ Nat)) (h' : zx_H) (hf : f_ColumnVault_previous p0 p1 p2 p3 h = some (r, h')) : zx_T sc (d + 3) 297 (0, [(0, .ref p0), (1, .int p1), (2, .int p2), (3, .int p3)], []) h (zf_oIx r) h' := by
  unfold f_ColumnVault_previous at hf
  refine zv_p (k := 3) (f' := (3, [(0, .ref p0), (1, .int p1), (2, .int p2), (3, .int p3)], [.int p2, .int p1, .ref p0])) zq_297 zo_297 (by with_unfolding_all rfl) ?_
  replace hf := zf_be hf
  obtain ⟨_, ho, hf⟩ := hf
  replace hf := zf_b3e hf
  obtain ⟨v1, h2, hv, hf⟩ | ⟨E3, h2, hv, hf⟩ := hf
  rotate_left
  · cases hf; exact zv_cx zq_297 zo_297 rfl rfl rfl rfl rfl (zv_cv rfl rfl rfl (zf_ise ho) rfl) (t_f_ColumnVault_sheetWith _ _ _ _ _ _ hv) rfl
  refine zv_c zq_297 zo_297 rfl rfl rfl rfl rfl (zv_cv rfl rfl rfl (zf_ise ho) rfl) (t_f_ColumnVault_sheetWith _ _ _ _ _ _ hv) ?_
  refine zv_p (k := 3) (f' := (11, [(4, .ref v1), (0, .ref p0), (1, .int p1), (2, .int p2), (3, .int p3)], [.int p3, .ref v1])) zq_297 zo_297 (by with_unfolding_all rfl) ?_
  replace hf := zf_b3e hf
  obtain ⟨v4, h5, hv, hf⟩ | ⟨E6, h5, hv, hf⟩ := hf
  rotate_left
  · cases hf; exact zv_cx zq_297 zo_297 rfl rfl rfl rfl rfl rfl (t_f_ColumnVault_requireRow _ _ _ _ _ hv) rfl
  refine zv_c zq_297 zo_297 rfl rfl rfl rfl rfl rfl (t_f_ColumnVault_requireRow _ _ _ _ _ hv) ?_
  refine zv_p (k := 2) (f' := (17, [(4, .ref v1), (0, .ref p0), (1, .int p1), (2, .int p2), (3, .int p3)], [.int p3, .ref v1])) zq_297 zo_297 (by with_unfolding_all rfl) ?_
  replace hf := zf_be hf
  obtain ⟨_, ho, hf⟩ := hf
  replace hf := zf_b2e hf
  obtain ⟨v7, h8, hv, hf⟩ := hf
  refine zv_c zq_297 zo_297 rfl rfl rfl rfl rfl (zv_cv rfl rfl rfl (zf_ise ho) rfl) (t_f_Sheet_placeInOrder _ _ _ _ _ hv) ?_
  refine zv_p (k := 7) (f' := (31, [(5, .int v7), (4, .ref v1), (0, .ref p0), (1, .int p1), (2, .int p2), (3, .int p3)], [.int p3, .int p2, .ref v1, .int p2, .ref v1, .ref v1])) zq_297 zo_297 (by with_unfolding_all rfl) ?_
  replace hf := zf_be hf
  obtain ⟨_, ho, hf⟩ := hf
  replace hf := zf_b2e hf
  obtain ⟨v9, h10, hv, hf⟩ := hf
  refine zv_c zq_297 zo_297 rfl rfl rfl rfl rfl (zv_cv rfl rfl rfl (zf_ise ho) rfl) (t_f_Sheet_keyAt _ _ _ _ _ _ hv) ?_
  replace hf := zf_be hf
  obtain ⟨_, ho, hf⟩ := hf
  replace hf := zf_b2e hf
  obtain ⟨v11, h12, hv, hf⟩ := hf
  refine zv_c zq_297 zo_297 rfl rfl rfl rfl rfl (zv_cv rfl rfl rfl (zf_ise ho) rfl) (t_f_Sheet_rowsWith _ _ _ _ _ _ hv) ?_
  refine zv_p (k := 4) (f' := (43, [(5, .int v7), (4, .ref v1), (0, .ref p0), (1, .int p1), (2, .int p2), (3, .int p3)], [.int (v7 - (1 : Int32)), .ref v1, .long v11, .ref v1])) zq_297 zo_297 (by with_unfolding_all rfl) ?_
  replace hf := zf_be hf
  obtain ⟨_, ho, hf⟩ := hf
  replace hf := zf_b2e hf
  obtain ⟨v13, h14, hv, hf⟩ := hf
  refine zv_c zq_297 zo_297 rfl rfl rfl rfl rfl (zv_cv rfl rfl rfl (zf_ise ho) rfl) (t_f_Sheet_rowsUpTo _ _ _ _ _ hv) ?_
  refine zv_p (k := 1) (f' := (47, [(5, .int v7), (4, .ref v1), (0, .ref p0), (1, .int p1), (2, .int p2), (3, .int p3)], [.long (v11 &&& v13), .ref v1])) zq_297 zo_297 (by with_unfolding_all rfl) ?_
  replace hf := zf_be hf
  obtain ⟨_, ho, hf⟩ := hf
  replace hf := zf_b2e hf
  obtain ⟨v15, h16, hv, hf⟩ := hf
  refine zv_c zq_297 zo_297 rfl rfl rfl rfl rfl (zv_cv rfl rfl rfl (zf_ise ho) rfl) (t_f_Sheet_lastOf _ _ _ _ _ hv) ?_
  cases hf
  exact zv_rn zq_297 zo_297 rfl rfl
/-! ColumnVaultLaw.isTold (LColumnVault;arr II)Z -/
noncomputable def zI_296 : zd_T := [[(0, .aload_n 1, 1), (1, .aload_n 0, 1), (2, .iload_n 2, 1), (3, .iconst 1, 1), (4, .invokevirtual 147, 3), (7, .invokestatic 16, 3), (10, .istore_n 3, 1), (11, .aload_n 0, 1), (12, .iload_n 2, 1), (13, .iload_n 3, 1), (14, .invokevirtual 166, 3), (17, .istore 4, 2), (19, .aload_n 1, 1), (20, .aload_n 0, 1), (21, .iload_n 2, 1), (22, .iconst 1, 1), (23, .invokevirtual 147, 3), (26, .invokestatic 16, 3), (29, .istore 5, 2), (31, .aload_n 0, 1)], [(32, .iload_n 2, 1), (33, .iconst 0, 1), (34, .invokevirtual 147, 3), (37, .istore 6, 2), (39, .aload_n 1, 1), (40, .iload 4, 2), (42, .invokestatic 169, 3), (45, .lstore 7, 2), (47, .aload_n 1, 1), (48, .iconst 3, 1), (49, .invokestatic 16, 3), (52, .ifCond .ne 8, 3), (55, .lload 7, 2), (57, .goto 9, 3), (60, .aload_n 1, 1), (61, .iload 4, 2), (63, .invokestatic 169, 3)], [(66, .lstore 9, 2), (68, .iconst 0, 1), (69, .istore 11, 2), (71, .iconst 0, 1), (72, .istore 12, 2), (74, .ldc2_w 156, 3), (77, .lstore 13, 2), (79, .ldc2_w 156, 3), (82, .lstore 15, 2), (84, .lconst 0, 1), (85, .lstore 17, 2), (87, .iconst 0, 1), (88, .istore 19, 2), (90, .iload 19, 2), (92, .iload 6, 2), (94, .if_icmp .ge 419, 3)], [(97, .aload_n 0, 1), (98, .iload_n 2, 1), (99, .iload 19, 2), (101, .invokevirtual 98, 3), (104, .istore 20, 2), (106, .aload_n 0, 1), (107, .iload_n 2, 1), (108, .iload 20, 2), (110, .iload_n 3, 1), (111, .invokevirtual 91, 3), (114, .lstore 21, 2), (116, .iconst 1, 1), (117, .istore 23, 2), (119, .iconst (-1), 1), (120, .istore 24, 2), (122, .iconst 0, 1), (123, .istore 25, 2), (125, .iload 25, 2), (127, .iload 6, 2)], [(129, .if_icmp .ge 120, 3), (132, .aload_n 0, 1), (133, .iload_n 2, 1), (134, .iload 25, 2), (136, .invokevirtual 98, 3), (139, .istore 26, 2), (141, .aload_n 0, 1), (142, .iload_n 2, 1), (143, .iload 26, 2), (145, .iload 5, 2), (147, .invokevirtual 91, 3), (150, .aload_n 0, 1), (151, .iload_n 2, 1), (152, .iload 20, 2), (154, .iload 5, 2), (156, .invokevirtual 91, 3), (159, .lcmp, 1)], [(160, .ifCond .ne 7, 3), (163, .iconst 1, 1), (164, .goto 4, 3), (167, .iconst 0, 1), (168, .istore 27, 2), (170, .iload 25, 2), (172, .iload 19, 2), (174, .if_icmp .ge 12, 3), (177, .iload 27, 2), (179, .ifCond .eq 7, 3), (182, .iload 26, 2), (184, .istore 24, 2), (186, .iload 23, 2), (188, .iload 27, 2), (190, .ifCond .eq 49, 3)], [(193, .lload 21, 2), (195, .ldc2_w 204, 3), (198, .lcmp, 1), (199, .ifCond .eq 40, 3), (202, .aload_n 0, 1), (203, .iload_n 2, 1), (204, .iload 26, 2), (206, .iload_n 3, 1), (207, .invokevirtual 91, 3), (210, .ldc2_w 204, 3), (213, .lcmp, 1), (214, .ifCond .eq 25, 3), (217, .iload 4, 2), (219, .aload_n 0, 1), (220, .iload_n 2, 1), (221, .iload 26, 2), (223, .iload_n 3, 1)], [(224, .invokevirtual 91, 3), (227, .lload 21, 2), (229, .invokestatic 210, 3), (232, .ifCond .ge 7, 3), (235, .iconst 1, 1), (236, .goto 4, 3), (239, .iconst 0, 1), (240, .iadd, 1), (241, .istore 23, 2), (243, .iinc 25 1, 3), (246, .goto (-121), 3), (249, .aload_n 0, 1), (250, .iload_n 2, 1), (251, .iload 5, 2), (253, .iload 20, 2), (255, .invokevirtual 375, 3)], [(258, .iload 24, 2), (260, .if_icmp .ne 54, 3), (263, .lload 21, 2), (265, .ldc2_w 204, 3), (268, .lcmp, 1), (269, .ifCond .ne 30, 3), (272, .iload 5, 2), (274, .iload_n 3, 1), (275, .if_icmp .ne 41, 3), (278, .aload_n 0, 1), (279, .bipush 13, 2), (281, .iload_n 2, 1), (282, .iload_n 3, 1), (283, .iload 20, 2), (285, .i2l, 1), (286, .invokestatic 278, 3)], [(289, .ldc2_w 156, 3), (292, .lcmp, 1), (293, .ifCond .eq 23, 3), (296, .goto 18, 3), (299, .aload_n 0, 1), (300, .iload_n 2, 1), (301, .iload 5, 2), (303, .iload_n 3, 1), (304, .iload 20, 2), (306, .invokevirtual 121, 3), (309, .iload 23, 2), (311, .if_icmp .eq 5, 3), (314, .iconst 0, 1), (315, .ireturn, 1), (316, .iload 4, 2), (318, .ifCond .ne 39, 3)], [(321, .lload 17, 2), (323, .lload 21, 2), (325, .ldc2_w 204, 3), (328, .lcmp, 1), (329, .ifCond .ne 7, 3), (332, .lconst 0, 1), (333, .goto 5, 3), (336, .lload 21, 2), (338, .ladd, 1), (339, .lstore 17, 2), (341, .aload_n 0, 1), (342, .iload_n 2, 1), (343, .iload_n 3, 1), (344, .iload 19, 2), (346, .invokevirtual 144, 3), (349, .lload 17, 2), (351, .lcmp, 1)], [(352, .ifCond .eq 5, 3), (355, .iconst 0, 1), (356, .ireturn, 1), (357, .lload 21, 2), (359, .ldc2_w 204, 3), (362, .lcmp, 1), (363, .ifCond .ne 6, 3), (366, .goto 141, 3), (369, .iload 11, 2), (371, .iload 4, 2), (373, .lload 21, 2), (375, .lload 7, 2), (377, .invokestatic 210, 3), (380, .ifCond .lt 19, 3), (383, .iload 4, 2)], [(385, .lload 21, 2), (387, .lload 9, 2), (389, .invokestatic 210, 3), (392, .ifCond .gt 7, 3), (395, .iconst 1, 1), (396, .goto 4, 3), (399, .iconst 0, 1), (400, .iadd, 1), (401, .istore 11, 2), (403, .iload 12, 2), (405, .aload_n 0, 1), (406, .iload_n 2, 1), (407, .iload 20, 2), (409, .invokevirtual 178, 3), (412, .ifCond .eq 7, 3), (415, .iconst 1, 1)], [(416, .goto 4, 3), (419, .iconst 0, 1), (420, .iadd, 1), (421, .istore 12, 2), (423, .iload 4, 2), (425, .lload 21, 2), (427, .lload 7, 2), (429, .invokestatic 210, 3), (432, .ifCond .gt 29, 3), (435, .lload 13, 2), (437, .ldc2_w 156, 3), (440, .lcmp, 1), (441, .ifCond .eq 15, 3), (444, .iload 4, 2), (446, .lload 21, 2)], [(448, .lload 13, 2), (450, .invokestatic 210, 3), (453, .ifCond .le 8, 3), (456, .lload 21, 2), (458, .goto 5, 3), (461, .lload 13, 2), (463, .lstore 13, 2), (465, .iload 4, 2), (467, .lload 21, 2), (469, .lload 7, 2), (471, .invokestatic 210, 3), (474, .ifCond .lt 29, 3), (477, .lload 15, 2), (479, .ldc2_w 156, 3)], [(482, .lcmp, 1), (483, .ifCond .eq 15, 3), (486, .iload 4, 2), (488, .lload 21, 2), (490, .lload 15, 2), (492, .invokestatic 210, 3), (495, .ifCond .ge 8, 3), (498, .lload 21, 2), (500, .goto 5, 3), (503, .lload 15, 2), (505, .lstore 15, 2), (507, .iinc 19 1, 3), (510, .goto (-420), 3)], [(513, .aload_n 0, 1), (514, .iload_n 2, 1), (515, .iload_n 3, 1), (516, .lload 7, 2), (518, .lload 9, 2), (520, .invokevirtual 125, 3), (523, .iload 11, 2), (525, .if_icmp .ne 49, 3), (528, .aload_n 0, 1), (529, .bipush 15, 2), (531, .iload_n 2, 1), (532, .iload_n 3, 1), (533, .lload 7, 2), (535, .invokestatic 278, 3), (538, .lload 13, 2), (540, .lcmp, 1), (541, .ifCond .ne 33, 3)], [(544, .aload_n 0, 1), (545, .bipush 16, 2), (547, .iload_n 2, 1), (548, .iload_n 3, 1), (549, .lload 7, 2), (551, .invokestatic 278, 3), (554, .lload 15, 2), (556, .lcmp, 1), (557, .ifCond .ne 17, 3), (560, .aload_n 0, 1), (561, .iload_n 2, 1), (562, .iload_n 3, 1), (563, .iconst 0, 1), (564, .invokevirtual 118, 3), (567, .iload 12, 2), (569, .i2l, 1), (570, .lcmp, 1), (571, .ifCond .eq 5, 3), (574, .iconst 0, 1), (575, .ireturn, 1)], [(576, .iload 12, 2), (578, .ifCond .ne 39, 3), (581, .aload_n 0, 1), (582, .bipush 12, 2), (584, .iload_n 2, 1), (585, .iload_n 3, 1), (586, .ldc2_w 378, 3), (589, .invokestatic 278, 3), (592, .ldc2_w 156, 3), (595, .lcmp, 1), (596, .ifCond .ne 19, 3), (599, .aload_n 0, 1), (600, .iload_n 2, 1), (601, .iload_n 3, 1), (602, .iconst 5, 1), (603, .invokevirtual 118, 3), (606, .lconst 0, 1), (607, .lcmp, 1)], [(608, .ifCond .ne 7, 3), (611, .iconst 1, 1), (612, .goto 4, 3), (615, .iconst 0, 1), (616, .ireturn, 1), (617, .aload_n 0, 1), (618, .iload_n 2, 1), (619, .iload_n 3, 1), (620, .iconst 4, 1), (621, .invokevirtual 118, 3), (624, .lstore 19, 2), (626, .iconst 0, 1), (627, .istore 21, 2), (629, .iconst 0, 1), (630, .istore 22, 2), (632, .iconst 0, 1), (633, .istore 23, 2), (635, .iconst 0, 1), (636, .istore 24, 2), (638, .iload 24, 2)], [(640, .iload 6, 2), (642, .if_icmp .ge 149, 3), (645, .aload_n 0, 1), (646, .iload_n 2, 1), (647, .iload 24, 2), (649, .iload_n 3, 1), (650, .invokevirtual 91, 3), (653, .lstore 25, 2), (655, .aload_n 0, 1), (656, .iload_n 2, 1), (657, .iload 24, 2), (659, .invokevirtual 178, 3), (662, .ifCond .eq 123, 3), (665, .lload 25, 2), (667, .ldc2_w 204, 3), (670, .lcmp, 1), (671, .ifCond .ne 6, 3)], [(674, .goto 111, 3), (677, .iload 21, 2), (679, .iload 4, 2), (681, .lload 25, 2), (683, .lload 19, 2), (685, .invokestatic 210, 3), (688, .ifCond .ge 7, 3), (691, .iconst 1, 1), (692, .goto 4, 3), (695, .iconst 0, 1), (696, .iadd, 1), (697, .istore 21, 2), (699, .iload 22, 2), (701, .lload 25, 2), (703, .lload 19, 2)], [(705, .lcmp, 1), (706, .ifCond .ne 7, 3), (709, .iconst 1, 1), (710, .goto 4, 3), (713, .iconst 0, 1), (714, .iadd, 1), (715, .istore 22, 2), (717, .iconst 1, 1), (718, .istore 27, 2), (720, .iconst 0, 1), (721, .istore 28, 2), (723, .iload 28, 2), (725, .iload 24, 2), (727, .if_icmp .ge 43, 3), (730, .iload 27, 2), (732, .aload_n 0, 1), (733, .iload_n 2, 1), (734, .iload 28, 2)], [(736, .invokevirtual 178, 3), (739, .ifCond .eq 17, 3), (742, .aload_n 0, 1), (743, .iload_n 2, 1), (744, .iload 28, 2), (746, .iload_n 3, 1), (747, .invokevirtual 91, 3), (750, .lload 25, 2), (752, .lcmp, 1), (753, .ifCond .eq 7, 3), (756, .iconst 1, 1), (757, .goto 4, 3), (760, .iconst 0, 1), (761, .iand, 1), (762, .istore 27, 2), (764, .iinc 28 1, 3), (767, .goto (-44), 3)], [(770, .iload 23, 2), (772, .iload 27, 2), (774, .ifCond .eq 7, 3), (777, .iconst 1, 1), (778, .goto 4, 3), (781, .iconst 0, 1), (782, .iadd, 1), (783, .istore 23, 2), (785, .iinc 24 1, 3), (788, .goto (-150), 3), (791, .iload 21, 2), (793, .iload 12, 2), (795, .iconst 1, 1), (796, .isub, 1), (797, .iconst 2, 1), (798, .idiv, 1), (799, .if_icmp .gt 69, 3)], [(802, .iload 21, 2), (804, .iload 22, 2), (806, .iadd, 1), (807, .iload 12, 2), (809, .iconst 1, 1), (810, .isub, 1), (811, .iconst 2, 1), (812, .idiv, 1), (813, .if_icmp .le 55, 3), (816, .aload_n 0, 1), (817, .iload_n 2, 1), (818, .iload_n 3, 1), (819, .iconst 5, 1), (820, .invokevirtual 118, 3), (823, .iload 23, 2), (825, .i2l, 1), (826, .lcmp, 1), (827, .ifCond .ne 41, 3), (830, .iload 4, 2)], [(832, .aload_n 0, 1), (833, .iload_n 2, 1), (834, .iload_n 3, 1), (835, .iconst 2, 1), (836, .invokevirtual 118, 3), (839, .lload 19, 2), (841, .invokestatic 210, 3), (844, .ifCond .gt 24, 3), (847, .iload 4, 2), (849, .aload_n 0, 1), (850, .iload_n 2, 1), (851, .iload_n 3, 1), (852, .iconst 3, 1), (853, .invokevirtual 118, 3), (856, .lload 19, 2), (858, .invokestatic 210, 3), (861, .ifCond .lt 7, 3)], [(864, .iconst 1, 1), (865, .goto 4, 3), (868, .iconst 0, 1), (869, .ireturn, 1)]]
theorem zo_296 : zd_of 296 = some zI_296 := rfl
set_option maxRecDepth 100000 in
theorem zq_296 : zt_m[296]? = some (⟨"ColumnVaultLaw", "isTold", "(LColumnVault;[II)Z"⟩, method_27_code, 29, some (.boolean), [], 17, 3, 0, 1, 99999, 0) := rfl
set_option maxHeartbeats 1000000 in
def f_ColumnVaultLaw_isTold_186 (k90 : Nat → Int32 → Int32 → Int32 → Int32 → Int32 → Int64 → Int64 → Int32 → Int32 → Int64 → Int64 → Int64 → Int32 → zx_H → Option ((Int32 ⊕ Nat) × zx_H)) (k125 : Nat → Int32 → Int32 → Int32 → Int32 → Int32 → Int64 → Int64 → Int32 → Int32 → Int64 → Int64 → Int64 → Int32 → Int32 → Int64 → Int32 → Int32 → Int32 → zx_H → Option ((Int32 ⊕ Nat) × zx_H)) (p0 : Nat) (p1 : Int32) (p2 : Int32) (p3 : Int32) (p4 : Int32) (p5 : Int32) (p6 : Int64) (p7 : Int64) (p8 : Int32) (p9 : Int32) (p10 : Int64) (p11 : Int64) (p12 : Int64) (p13 : Int32) (p14 : Int32) (p15 : Int64) (p16 : Int32) (p17 : Int32) (p18 : Int32) (p19 : Int32) (p20 : Int32) (h : zx_H) : Option ((Int32 ⊕ Nat) × zx_H) :=
  if p20 = 0 then
    k125 p0 p1 p2 p3 p4 p5 p6 p7 p8 p9 p10 p11 p12 p13 p14 p15 (p16 + (0 : Int32)) p17 (p18 + (1 : Int32)) h
  else
    if p15 = (-9000000000 : Int64) then
      k125 p0 p1 p2 p3 p4 p5 p6 p7 p8 p9 p10 p11 p12 p13 p14 p15 (p16 + (0 : Int32)) p17 (p18 + (1 : Int32)) h
    else
      zf_b (zf_is 12 p0 h) fun _ =>
      zf_b3 (f_ColumnVault_get p0 p1 p19 p2 h) fun v1 h2 =>
      if v1 = (-9000000000 : Int64) then
        k125 p0 p1 p2 p3 p4 p5 p6 p7 p8 p9 p10 p11 p12 p13 p14 p15 (p16 + (0 : Int32)) p17 (p18 + (1 : Int32)) h2
      else
        zf_b (zf_is 12 p0 h2) fun _ =>
        zf_b3 (f_ColumnVault_get p0 p1 p19 p2 h2) fun v4 h5 =>
        zf_b2 (f_ColumnVaultLaw_than p3 v4 p15 h5) fun v7 h8 =>
        if 0 ≤ v7 then
          k125 p0 p1 p2 p3 p4 p5 p6 p7 p8 p9 p10 p11 p12 p13 p14 p15 (p16 + (0 : Int32)) p17 (p18 + (1 : Int32)) h8
        else
          k125 p0 p1 p2 p3 p4 p5 p6 p7 p8 p9 p10 p11 p12 p13 p14 p15 (p16 + (1 : Int32)) p17 (p18 + (1 : Int32)) h8
set_option maxHeartbeats 4000000 in
set_option maxRecDepth 400000 in
theorem t_f_ColumnVaultLaw_isTold_186 {sc : (Nat × (Nat → Int32)) × Bool} {d : Nat} {k90 : Nat → Int32 → Int32 → Int32 → Int32 → Int32 → Int64 → Int64 → Int32 → Int32 → Int64 → Int64 → Int64 → Int32 → zx_H → Option ((Int32 ⊕ Nat) × zx_H)} {k125 : Nat → Int32 → Int32 → Int32 → Int32 → Int32 → Int64 → Int64 → Int32 → Int32 → Int64 → Int64 → Int64 → Int32 → Int32 → Int64 → Int32 → Int32 → Int32 → zx_H → Option ((Int32 ⊕ Nat) × zx_H)} (hk90 : ∀ (a0 : Nat) (a1 : Int32) (a2 : Int32) (a3 : Int32) (a4 : Int32) (a5 : Int32) (a6 : Int64) (a7 : Int64) (a8 : Int32) (a9 : Int32) (a10 : Int64) (a11 : Int64) (a12 : Int64) (a13 : Int32) (h : zx_H) (r : (Int32 ⊕ Nat)) (h' : zx_H), k90 a0 a1 a2 a3 a4 a5 a6 a7 a8 a9 a10 a11 a12 a13 h = some (r, h') → zx_T sc (d + 125) 296 (90, [(0, .ref a0), (2, .int a1), (3, .int a2), (4, .int a3), (5, .int a4), (6, .int a5), (7, .long a6), (9, .long a7), (11, .int a8), (12, .int a9), (13, .long a10), (15, .long a11), (17, .long a12), (19, .int a13)], []) h (zf_oIx r) h') (hk125 : ∀ (a0 : Nat) (a1 : Int32) (a2 : Int32) (a3 : Int32) (a4 : Int32) (a5 : Int32) (a6 : Int64) (a7 : Int64) (a8 : Int32) (a9 : Int32) (a10 : Int64) (a11 : Int64) (a12 : Int64) (a13 : Int32) (a14 : Int32) (a15 : Int64) (a16 : Int32) (a17 : Int32) (a18 : Int32) (h : zx_H) (r : (Int32 ⊕ Nat)) (h' : zx_H), k125 a0 a1 a2 a3 a4 a5 a6 a7 a8 a9 a10 a11 a12 a13 a14 a15 a16 a17 a18 h = some (r, h') → zx_T sc (d + 125) 296 (125, [(0, .ref a0), (2, .int a1), (3, .int a2), (4, .int a3), (5, .int a4), (6, .int a5), (7, .long a6), (9, .long a7), (11, .int a8), (12, .int a9), (13, .long a10), (15, .long a11), (17, .long a12), (19, .int a13), (20, .int a14), (21, .long a15), (23, .int a16), (24, .int a17), (25, .int a18)], []) h (zf_oIx r) h') (p0 : Nat) (p1 : Int32) (p2 : Int32) (p3 : Int32) (p4 : Int32) (p5 : Int32) (p6 : Int64) (p7 : Int64) (p8 : Int32) (p9 : Int32) (p10 : Int64) (p11 : Int64) (p12 : Int64) (p13 : Int32) (p14 : Int32) (p15 : Int64) (p16 : Int32) (p17 : Int32) (p18 : Int32) (p19 : Int32) (p20 : Int32) (h : zx_H) (r : (Int32 ⊕ Nat)) (h' : zx_H) (hf : f_ColumnVaultLaw_isTold_186 k90 k125 p0 p1 p2 p3 p4 p5 p6 p7 p8 p9 p10 p11 p12 p13 p14 p15 p16 p17 p18 p19 p20 h = some (r, h')) : zx_T sc (d + 125) 296 (186, [(0, .ref p0), (2, .int p1), (3, .int p2), (4, .int p3), (5, .int p4), (6, .int p5), (7, .long p6), (9, .long p7), (11, .int p8), (12, .int p9), (13, .long p10), (15, .long p11), (17, .long p12), (19, .int p13), (20, .int p14), (21, .long p15), (23, .int p16), (24, .int p17), (25, .int p18), (26, .int p19), (27, .int p20)], []) h (zf_oIx r) h' := by
  unfold f_ColumnVaultLaw_isTold_186 at hf
  refine zv_p (k := 2) (f' := (190, [(0, .ref p0), (2, .int p1), (3, .int p2), (4, .int p3), (5, .int p4), (6, .int p5), (7, .long p6), (9, .long p7), (11, .int p8), (12, .int p9), (13, .long p10), (15, .long p11), (17, .long p12), (19, .int p13), (20, .int p14), (21, .long p15), (23, .int p16), (24, .int p17), (25, .int p18), (26, .int p19), (27, .int p20)], [.int p20, .int p16])) zq_296 zo_296 (by with_unfolding_all rfl) ?_
  replace hf := zf_ite hf
  obtain ⟨hc, hf⟩ | ⟨hc, hf⟩ := hf
  · refine zv_brT (off := 49) (tt := 239) (r := [.int p16]) zq_296 zo_296 hc rfl rfl rfl ?_
    refine zv_p (k := 5) (f' := (125, [(25, .int (p18 + (1 : Int32))), (23, .int (p16 + (0 : Int32))), (0, .ref p0), (2, .int p1), (3, .int p2), (4, .int p3), (5, .int p4), (6, .int p5), (7, .long p6), (9, .long p7), (11, .int p8), (12, .int p9), (13, .long p10), (15, .long p11), (17, .long p12), (19, .int p13), (20, .int p14), (21, .long p15), (24, .int p17), (26, .int p19), (27, .int p20)], [])) zq_296 zo_296 (by with_unfolding_all rfl) ?_
    refine zv_pick (lv' := [(0, .ref p0), (2, .int p1), (3, .int p2), (4, .int p3), (5, .int p4), (6, .int p5), (7, .long p6), (9, .long p7), (11, .int p8), (12, .int p9), (13, .long p10), (15, .long p11), (17, .long p12), (19, .int p13), (20, .int p14), (21, .long p15), (23, .int (p16 + (0 : Int32))), (24, .int p17), (25, .int (p18 + (1 : Int32)))]) [0, 2, 3, 4, 5, 6, 7, 9, 11, 12, 13, 15, 17, 19, 20, 21, 23, 24, 25] rfl rfl ?_
    exact hk125 _ _ _ _ _ _ _ _ _ _ _ _ _ _ _ _ _ _ _ _ _ _ hf
  · refine zv_brF (off := 49) (tt := 239) (r := [.int p16]) zq_296 zo_296 hc rfl rfl rfl ?_
    refine zv_p (k := 1) (f' := (195, [(0, .ref p0), (2, .int p1), (3, .int p2), (4, .int p3), (5, .int p4), (6, .int p5), (7, .long p6), (9, .long p7), (11, .int p8), (12, .int p9), (13, .long p10), (15, .long p11), (17, .long p12), (19, .int p13), (20, .int p14), (21, .long p15), (23, .int p16), (24, .int p17), (25, .int p18), (26, .int p19), (27, .int p20)], [.long p15, .int p16])) zq_296 zo_296 (by with_unfolding_all rfl) ?_
    refine zv_lng zq_296 zo_296 rfl rfl ?_
    refine zv_p (k := 1) (f' := (199, [(0, .ref p0), (2, .int p1), (3, .int p2), (4, .int p3), (5, .int p4), (6, .int p5), (7, .long p6), (9, .long p7), (11, .int p8), (12, .int p9), (13, .long p10), (15, .long p11), (17, .long p12), (19, .int p13), (20, .int p14), (21, .long p15), (23, .int p16), (24, .int p17), (25, .int p18), (26, .int p19), (27, .int p20)], [.int (lg_cmp p15 (-9000000000 : Int64)), .int p16])) zq_296 zo_296 (by with_unfolding_all rfl) ?_
    replace hf := zf_ite hf
    obtain ⟨hc, hf⟩ | ⟨hc, hf⟩ := hf
    · refine zv_brT (off := 40) (tt := 239) (r := [.int p16]) zq_296 zo_296 (zl_eq.mpr hc) rfl rfl rfl ?_
      refine zv_p (k := 5) (f' := (125, [(25, .int (p18 + (1 : Int32))), (23, .int (p16 + (0 : Int32))), (0, .ref p0), (2, .int p1), (3, .int p2), (4, .int p3), (5, .int p4), (6, .int p5), (7, .long p6), (9, .long p7), (11, .int p8), (12, .int p9), (13, .long p10), (15, .long p11), (17, .long p12), (19, .int p13), (20, .int p14), (21, .long p15), (24, .int p17), (26, .int p19), (27, .int p20)], [])) zq_296 zo_296 (by with_unfolding_all rfl) ?_
      refine zv_pick (lv' := [(0, .ref p0), (2, .int p1), (3, .int p2), (4, .int p3), (5, .int p4), (6, .int p5), (7, .long p6), (9, .long p7), (11, .int p8), (12, .int p9), (13, .long p10), (15, .long p11), (17, .long p12), (19, .int p13), (20, .int p14), (21, .long p15), (23, .int (p16 + (0 : Int32))), (24, .int p17), (25, .int (p18 + (1 : Int32)))]) [0, 2, 3, 4, 5, 6, 7, 9, 11, 12, 13, 15, 17, 19, 20, 21, 23, 24, 25] rfl rfl ?_
      exact hk125 _ _ _ _ _ _ _ _ _ _ _ _ _ _ _ _ _ _ _ _ _ _ hf
    · refine zv_brF (off := 40) (tt := 239) (r := [.int p16]) zq_296 zo_296 (mt zl_eq.mp hc) rfl rfl rfl ?_
      refine zv_p (k := 4) (f' := (207, [(0, .ref p0), (2, .int p1), (3, .int p2), (4, .int p3), (5, .int p4), (6, .int p5), (7, .long p6), (9, .long p7), (11, .int p8), (12, .int p9), (13, .long p10), (15, .long p11), (17, .long p12), (19, .int p13), (20, .int p14), (21, .long p15), (23, .int p16), (24, .int p17), (25, .int p18), (26, .int p19), (27, .int p20)], [.int p2, .int p19, .int p1, .ref p0, .int p16])) zq_296 zo_296 (by with_unfolding_all rfl) ?_
      replace hf := zf_be hf
      obtain ⟨_, ho, hf⟩ := hf
      replace hf := zf_b3e hf
      obtain ⟨v1, h2, hv, hf⟩ | ⟨E3, h2, hv, hf⟩ := hf
      rotate_left
      · cases hf; exact zv_cx zq_296 zo_296 rfl rfl rfl rfl rfl (zv_cv rfl rfl rfl (zf_ise ho) rfl) (t_f_ColumnVault_get _ _ _ _ _ _ _ hv) rfl
      refine zv_c zq_296 zo_296 rfl rfl rfl rfl rfl (zv_cv rfl rfl rfl (zf_ise ho) rfl) (t_f_ColumnVault_get _ _ _ _ _ _ _ hv) ?_
      refine zv_lng zq_296 zo_296 rfl rfl ?_
      refine zv_p (k := 1) (f' := (214, [(0, .ref p0), (2, .int p1), (3, .int p2), (4, .int p3), (5, .int p4), (6, .int p5), (7, .long p6), (9, .long p7), (11, .int p8), (12, .int p9), (13, .long p10), (15, .long p11), (17, .long p12), (19, .int p13), (20, .int p14), (21, .long p15), (23, .int p16), (24, .int p17), (25, .int p18), (26, .int p19), (27, .int p20)], [.int (lg_cmp v1 (-9000000000 : Int64)), .int p16])) zq_296 zo_296 (by with_unfolding_all rfl) ?_
      replace hf := zf_ite hf
      obtain ⟨hc, hf⟩ | ⟨hc, hf⟩ := hf
      · refine zv_brT (off := 25) (tt := 239) (r := [.int p16]) zq_296 zo_296 (zl_eq.mpr hc) rfl rfl rfl ?_
        refine zv_p (k := 5) (f' := (125, [(25, .int (p18 + (1 : Int32))), (23, .int (p16 + (0 : Int32))), (0, .ref p0), (2, .int p1), (3, .int p2), (4, .int p3), (5, .int p4), (6, .int p5), (7, .long p6), (9, .long p7), (11, .int p8), (12, .int p9), (13, .long p10), (15, .long p11), (17, .long p12), (19, .int p13), (20, .int p14), (21, .long p15), (24, .int p17), (26, .int p19), (27, .int p20)], [])) zq_296 zo_296 (by with_unfolding_all rfl) ?_
        refine zv_pick (lv' := [(0, .ref p0), (2, .int p1), (3, .int p2), (4, .int p3), (5, .int p4), (6, .int p5), (7, .long p6), (9, .long p7), (11, .int p8), (12, .int p9), (13, .long p10), (15, .long p11), (17, .long p12), (19, .int p13), (20, .int p14), (21, .long p15), (23, .int (p16 + (0 : Int32))), (24, .int p17), (25, .int (p18 + (1 : Int32)))]) [0, 2, 3, 4, 5, 6, 7, 9, 11, 12, 13, 15, 17, 19, 20, 21, 23, 24, 25] rfl rfl ?_
        exact hk125 _ _ _ _ _ _ _ _ _ _ _ _ _ _ _ _ _ _ _ _ _ _ hf
      · refine zv_brF (off := 25) (tt := 239) (r := [.int p16]) zq_296 zo_296 (mt zl_eq.mp hc) rfl rfl rfl ?_
        refine zv_p (k := 5) (f' := (224, [(0, .ref p0), (2, .int p1), (3, .int p2), (4, .int p3), (5, .int p4), (6, .int p5), (7, .long p6), (9, .long p7), (11, .int p8), (12, .int p9), (13, .long p10), (15, .long p11), (17, .long p12), (19, .int p13), (20, .int p14), (21, .long p15), (23, .int p16), (24, .int p17), (25, .int p18), (26, .int p19), (27, .int p20)], [.int p2, .int p19, .int p1, .ref p0, .int p3, .int p16])) zq_296 zo_296 (by with_unfolding_all rfl) ?_
        replace hf := zf_be hf
        obtain ⟨_, ho, hf⟩ := hf
        replace hf := zf_b3e hf
        obtain ⟨v4, h5, hv, hf⟩ | ⟨E6, h5, hv, hf⟩ := hf
        rotate_left
        · cases hf; exact zv_cx zq_296 zo_296 rfl rfl rfl rfl rfl (zv_cv rfl rfl rfl (zf_ise ho) rfl) (t_f_ColumnVault_get _ _ _ _ _ _ _ hv) rfl
        refine zv_c zq_296 zo_296 rfl rfl rfl rfl rfl (zv_cv rfl rfl rfl (zf_ise ho) rfl) (t_f_ColumnVault_get _ _ _ _ _ _ _ hv) ?_
        refine zv_p (k := 1) (f' := (229, [(0, .ref p0), (2, .int p1), (3, .int p2), (4, .int p3), (5, .int p4), (6, .int p5), (7, .long p6), (9, .long p7), (11, .int p8), (12, .int p9), (13, .long p10), (15, .long p11), (17, .long p12), (19, .int p13), (20, .int p14), (21, .long p15), (23, .int p16), (24, .int p17), (25, .int p18), (26, .int p19), (27, .int p20)], [.long p15, .long v4, .int p3, .int p16])) zq_296 zo_296 (by with_unfolding_all rfl) ?_
        replace hf := zf_b2e hf
        obtain ⟨v7, h8, hv, hf⟩ := hf
        refine zv_c zq_296 zo_296 rfl rfl rfl rfl rfl rfl (t_f_ColumnVaultLaw_than _ _ _ _ _ _ hv) ?_
        replace hf := zf_ite hf
        obtain ⟨hc, hf⟩ | ⟨hc, hf⟩ := hf
        · refine zv_brT (off := 7) (tt := 239) (r := [.int p16]) zq_296 zo_296 hc rfl rfl rfl ?_
          refine zv_p (k := 5) (f' := (125, [(25, .int (p18 + (1 : Int32))), (23, .int (p16 + (0 : Int32))), (0, .ref p0), (2, .int p1), (3, .int p2), (4, .int p3), (5, .int p4), (6, .int p5), (7, .long p6), (9, .long p7), (11, .int p8), (12, .int p9), (13, .long p10), (15, .long p11), (17, .long p12), (19, .int p13), (20, .int p14), (21, .long p15), (24, .int p17), (26, .int p19), (27, .int p20)], [])) zq_296 zo_296 (by with_unfolding_all rfl) ?_
          refine zv_pick (lv' := [(0, .ref p0), (2, .int p1), (3, .int p2), (4, .int p3), (5, .int p4), (6, .int p5), (7, .long p6), (9, .long p7), (11, .int p8), (12, .int p9), (13, .long p10), (15, .long p11), (17, .long p12), (19, .int p13), (20, .int p14), (21, .long p15), (23, .int (p16 + (0 : Int32))), (24, .int p17), (25, .int (p18 + (1 : Int32)))]) [0, 2, 3, 4, 5, 6, 7, 9, 11, 12, 13, 15, 17, 19, 20, 21, 23, 24, 25] rfl rfl ?_
          exact hk125 _ _ _ _ _ _ _ _ _ _ _ _ _ _ _ _ _ _ _ _ _ _ hf
        · refine zv_brF (off := 7) (tt := 239) (r := [.int p16]) zq_296 zo_296 hc rfl rfl rfl ?_
          refine zv_p (k := 6) (f' := (125, [(25, .int (p18 + (1 : Int32))), (23, .int (p16 + (1 : Int32))), (0, .ref p0), (2, .int p1), (3, .int p2), (4, .int p3), (5, .int p4), (6, .int p5), (7, .long p6), (9, .long p7), (11, .int p8), (12, .int p9), (13, .long p10), (15, .long p11), (17, .long p12), (19, .int p13), (20, .int p14), (21, .long p15), (24, .int p17), (26, .int p19), (27, .int p20)], [])) zq_296 zo_296 (by with_unfolding_all rfl) ?_
          refine zv_pick (lv' := [(0, .ref p0), (2, .int p1), (3, .int p2), (4, .int p3), (5, .int p4), (6, .int p5), (7, .long p6), (9, .long p7), (11, .int p8), (12, .int p9), (13, .long p10), (15, .long p11), (17, .long p12), (19, .int p13), (20, .int p14), (21, .long p15), (23, .int (p16 + (1 : Int32))), (24, .int p17), (25, .int (p18 + (1 : Int32)))]) [0, 2, 3, 4, 5, 6, 7, 9, 11, 12, 13, 15, 17, 19, 20, 21, 23, 24, 25] rfl rfl ?_
          exact hk125 _ _ _ _ _ _ _ _ _ _ _ _ _ _ _ _ _ _ _ _ _ _ hf
