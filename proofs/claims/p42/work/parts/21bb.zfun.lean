/-! ColumnVault.placeOf (II)I -/
noncomputable def zI_201 : zd_T := [[(0, .aload_n 0, 1), (1, .iload_n 1, 1), (2, .invokevirtual 53, 3), (5, .astore_n 3, 1), (6, .aload_n 3, 1), (7, .iload_n 2, 1), (8, .invokestatic 108, 3), (11, .aload_n 3, 1), (12, .iload_n 2, 1), (13, .invokevirtual 175, 3), (16, .ireturn, 1)]]
theorem zo_201 : zd_of 201 = some zI_201 := rfl
set_option maxRecDepth 100000 in
theorem zq_201 : zt_m[201]? = some (⟨"ColumnVault", "placeOf", "(II)I"⟩, prog_1_method_14_code, 4, some (.int), [], 12, 2, 0, 0, 0, 0) := rfl
set_option maxHeartbeats 1000000 in
def f_ColumnVault_placeOf (p0 : Nat) (p1 : Int32) (p2 : Int32) (h : zx_H) : Option ((Int32 ⊕ Nat) × zx_H) :=
  zf_b (zf_is 12 p0 h) fun _ =>
  zf_b3 (f_ColumnVault_sheetOf p0 p1 h) fun v1 h2 =>
  zf_b3 (f_ColumnVault_requireRow v1 p2 h2) fun _ h5 =>
  zf_b (zf_is 10 v1 h5) fun _ =>
  zf_b2 (f_Sheet_placeInOrder v1 p2 h5) fun v7 h8 =>
  some (.inl v7, h8)
set_option maxHeartbeats 4000000 in
set_option maxRecDepth 400000 in
theorem t_f_ColumnVault_placeOf {sc : (Nat × (Nat → Int32)) × Bool} {d : Nat} (p0 : Nat) (p1 : Int32) (p2 : Int32) (h : zx_H) (r : (Int32 ⊕ Nat)) (h' : zx_H) (hf : f_ColumnVault_placeOf p0 p1 p2 h = some (r, h')) : zx_T sc (d + 2) 201 (0, [(0, .ref p0), (1, .int p1), (2, .int p2)], []) h (zf_oIx r) h' := by
  unfold f_ColumnVault_placeOf at hf
  refine zv_p (k := 2) (f' := (2, [(0, .ref p0), (1, .int p1), (2, .int p2)], [.int p1, .ref p0])) zq_201 zo_201 (by with_unfolding_all rfl) ?_
  replace hf := zf_be hf
  obtain ⟨_, ho, hf⟩ := hf
  replace hf := zf_b3e hf
  obtain ⟨v1, h2, hv, hf⟩ | ⟨E3, h2, hv, hf⟩ := hf
  rotate_left
  · cases hf; exact zv_cx zq_201 zo_201 rfl rfl rfl rfl rfl (zv_cv rfl rfl rfl (zf_ise ho) rfl) (t_f_ColumnVault_sheetOf _ _ _ _ _ hv) rfl
  refine zv_c zq_201 zo_201 rfl rfl rfl rfl rfl (zv_cv rfl rfl rfl (zf_ise ho) rfl) (t_f_ColumnVault_sheetOf _ _ _ _ _ hv) ?_
  refine zv_p (k := 3) (f' := (8, [(3, .ref v1), (0, .ref p0), (1, .int p1), (2, .int p2)], [.int p2, .ref v1])) zq_201 zo_201 (by with_unfolding_all rfl) ?_
  replace hf := zf_b3e hf
  obtain ⟨v4, h5, hv, hf⟩ | ⟨E6, h5, hv, hf⟩ := hf
  rotate_left
  · cases hf; exact zv_cx zq_201 zo_201 rfl rfl rfl rfl rfl rfl (t_f_ColumnVault_requireRow _ _ _ _ _ hv) rfl
  refine zv_c zq_201 zo_201 rfl rfl rfl rfl rfl rfl (t_f_ColumnVault_requireRow _ _ _ _ _ hv) ?_
  refine zv_p (k := 2) (f' := (13, [(3, .ref v1), (0, .ref p0), (1, .int p1), (2, .int p2)], [.int p2, .ref v1])) zq_201 zo_201 (by with_unfolding_all rfl) ?_
  replace hf := zf_be hf
  obtain ⟨_, ho, hf⟩ := hf
  replace hf := zf_b2e hf
  obtain ⟨v7, h8, hv, hf⟩ := hf
  refine zv_c zq_201 zo_201 rfl rfl rfl rfl rfl (zv_cv rfl rfl rfl (zf_ise ho) rfl) (t_f_Sheet_placeInOrder _ _ _ _ _ hv) ?_
  cases hf
  exact zv_rn zq_201 zo_201 rfl rfl
/-! ColumnVaultLaw.isRemoved (LColumnVault;arr II)Z -/
noncomputable def zI_196 : zd_T := [[(0, .aload_n 0, 1), (1, .iload_n 2, 1), (2, .iconst 0, 1), (3, .invokevirtual 147, 3), (6, .ifCond .ne 5, 3), (9, .iconst 1, 1), (10, .ireturn, 1), (11, .aload_n 0, 1), (12, .iload_n 2, 1), (13, .invokestatic 188, 3), (16, .astore_n 3, 1), (17, .aload_n 0, 1), (18, .iload_n 2, 1), (19, .invokestatic 192, 3), (22, .astore 4, 2), (24, .aload_n 0, 1), (25, .iload_n 2, 1), (26, .invokestatic 184, 3), (29, .astore 5, 2), (31, .aload_n 1, 1)], [(32, .aload_n 3, 1), (33, .arraylength, 1), (34, .invokestatic 16, 3), (37, .istore 6, 2), (39, .aload_n 0, 1), (40, .invokevirtual 198, 3), (43, .istore 7, 2), (45, .aload_n 0, 1), (46, .iload_n 2, 1), (47, .iload 6, 2), (49, .invokevirtual 173, 3), (52, .aload_n 3, 1), (53, .arraylength, 1), (54, .iconst 1, 1), (55, .isub, 1), (56, .if_icmp .ne 14, 3), (59, .aload_n 0, 1), (60, .invokevirtual 198, 3), (63, .iload 7, 2)], [(65, .iconst 1, 1), (66, .iadd, 1), (67, .if_icmp .eq 5, 3), (70, .iconst 0, 1), (71, .ireturn, 1), (72, .iconst 0, 1), (73, .istore 8, 2), (75, .aload_n 3, 1), (76, .astore 9, 2), (78, .aload 9, 2), (80, .arraylength, 1), (81, .istore 10, 2), (83, .iconst 0, 1), (84, .istore 11, 2), (86, .iload 11, 2), (88, .iload 10, 2), (90, .if_icmp .ge 54, 3), (93, .aload 9, 2), (95, .iload 11, 2)], [(97, .iaload, 1), (98, .istore 12, 2), (100, .iload 12, 2), (102, .iload 6, 2), (104, .if_icmp .eq 34, 3), (107, .aload_n 0, 1), (108, .iload_n 2, 1), (109, .iload 8, 2), (111, .iinc 8 1, 3), (114, .invokevirtual 98, 3), (117, .iload 12, 2), (119, .iload 6, 2), (121, .if_icmp .le 10, 3), (124, .iload 12, 2), (126, .iconst 1, 1), (127, .isub, 1)], [(128, .goto 5, 3), (131, .iload 12, 2), (133, .if_icmp .eq 5, 3), (136, .iconst 0, 1), (137, .ireturn, 1), (138, .iinc 11 1, 3), (141, .goto (-55), 3), (144, .iconst 0, 1), (145, .istore 9, 2), (147, .iload 9, 2), (149, .aload 5, 2), (151, .arraylength, 1), (152, .if_icmp .ge 114, 3), (155, .iload 9, 2), (157, .iload 6, 2), (159, .if_icmp .ne 6, 3)], [(162, .goto 98, 3), (165, .iload 9, 2), (167, .iload 6, 2), (169, .if_icmp .le 10, 3), (172, .iload 9, 2), (174, .iconst 1, 1), (175, .isub, 1), (176, .goto 5, 3), (179, .iload 9, 2), (181, .istore 10, 2), (183, .aload_n 0, 1), (184, .iload_n 2, 1), (185, .iload 10, 2), (187, .invokevirtual 178, 3), (190, .aload 4, 2)], [(192, .iload 9, 2), (194, .baload, 1), (195, .if_icmp .ne 20, 3), (198, .aload_n 0, 1), (199, .iload_n 2, 1), (200, .aload_n 0, 1), (201, .iload_n 2, 1), (202, .iload 10, 2), (204, .invokevirtual 201, 3), (207, .invokevirtual 98, 3), (210, .iload 10, 2), (212, .if_icmp .eq 5, 3), (215, .iconst 0, 1), (216, .ireturn, 1), (217, .iconst 0, 1), (218, .istore 11, 2), (220, .iload 11, 2), (222, .aload 5, 2)], [(224, .iload 9, 2), (226, .aaload, 1), (227, .arraylength, 1), (228, .if_icmp .ge 32, 3), (231, .aload_n 0, 1), (232, .iload_n 2, 1), (233, .iload 10, 2), (235, .iload 11, 2), (237, .invokevirtual 91, 3), (240, .aload 5, 2), (242, .iload 9, 2), (244, .aaload, 1), (245, .iload 11, 2), (247, .laload, 1), (248, .lcmp, 1), (249, .ifCond .eq 5, 3), (252, .iconst 0, 1), (253, .ireturn, 1), (254, .iinc 11 1, 3)], [(257, .goto (-37), 3), (260, .iinc 9 1, 3), (263, .goto (-116), 3), (266, .aload_n 0, 1), (267, .iload_n 2, 1), (268, .invokevirtual 80, 3), (271, .istore 9, 2), (273, .iload 9, 2), (275, .aload_n 3, 1), (276, .arraylength, 1), (277, .iconst 1, 1), (278, .isub, 1), (279, .if_icmp .ne 29, 3), (282, .aload_n 0, 1), (283, .iload_n 2, 1), (284, .iload 9, 2), (286, .invokevirtual 201, 3)], [(289, .iload 9, 2), (291, .if_icmp .ne 17, 3), (294, .aload_n 0, 1), (295, .iload_n 2, 1), (296, .iload 9, 2), (298, .invokevirtual 178, 3), (301, .ifCond .eq 7, 3), (304, .iconst 1, 1), (305, .goto 4, 3), (308, .iconst 0, 1), (309, .istore 10, 2), (311, .iconst 0, 1), (312, .istore 11, 2), (314, .iload 11, 2), (316, .aload_n 0, 1), (317, .iload_n 2, 1), (318, .iconst 1, 1), (319, .invokevirtual 147, 3)], [(322, .if_icmp .ge 35, 3), (325, .iload 10, 2), (327, .aload_n 0, 1), (328, .iload_n 2, 1), (329, .iload 9, 2), (331, .iload 11, 2), (333, .invokevirtual 91, 3), (336, .ldc2_w 204, 3), (339, .lcmp, 1), (340, .ifCond .ne 7, 3), (343, .iconst 1, 1), (344, .goto 4, 3), (347, .iconst 0, 1), (348, .iand, 1), (349, .istore 10, 2), (351, .iinc 11 1, 3)], [(354, .goto (-40), 3), (357, .iload 10, 2), (359, .ifCond .eq 18, 3), (362, .aload_n 0, 1), (363, .invokevirtual 198, 3), (366, .iload 7, 2), (368, .iconst 2, 1), (369, .iadd, 1), (370, .if_icmp .ne 7, 3), (373, .iconst 1, 1), (374, .goto 4, 3), (377, .iconst 0, 1), (378, .ireturn, 1)]]
theorem zo_196 : zd_of 196 = some zI_196 := rfl
set_option maxRecDepth 100000 in
theorem zq_196 : zt_m[196]? = some (⟨"ColumnVaultLaw", "isRemoved", "(LColumnVault;[II)Z"⟩, method_16_code, 13, some (.boolean), [], 17, 3, 0, 1, 99999, 0) := rfl
set_option maxHeartbeats 1000000 in
def f_ColumnVaultLaw_isRemoved_220 (k147 : Nat → Int32 → Nat → Nat → Nat → Int32 → Int32 → Int32 → zx_H → Option ((Int32 ⊕ Nat) × zx_H)) : Nat → Nat → Int32 → Nat → Nat → Nat → Int32 → Int32 → Int32 → Int32 → Int32 → zx_H → Option ((Int32 ⊕ Nat) × zx_H)
  | 0, _, _, _, _, _, _, _, _, _, _, _ => none
  | n + 1, p0, p1, p2, p3, p4, p5, p6, p7, p8, p9, h =>
    zf_b (zf_ldA p4 p7 h) fun v1 =>
    zf_b (zf_len v1 h) fun v2 =>
    if v2 ≤ p9 then
      k147 p0 p1 p2 p3 p4 p5 p6 (p7 + (1 : Int32)) h
    else
      zf_b (zf_is 12 p0 h) fun _ =>
      zf_b3 (f_ColumnVault_get p0 p1 p8 p9 h) fun v3 h4 =>
      zf_b (zf_ldA p4 p7 h4) fun v6 =>
      zf_b (zf_ldJ v6 p9 h4) fun v7 =>
      if v3 = v7 then
        (f_ColumnVaultLaw_isRemoved_220 k147 n) p0 p1 p2 p3 p4 p5 p6 p7 p8 (p9 + (1 : Int32)) h4
      else
        some (.inl (0 : Int32), h4)
set_option maxHeartbeats 4000000 in
set_option maxRecDepth 400000 in
theorem t_f_ColumnVaultLaw_isRemoved_220 {sc : (Nat × (Nat → Int32)) × Bool} {d : Nat} {k147 : Nat → Int32 → Nat → Nat → Nat → Int32 → Int32 → Int32 → zx_H → Option ((Int32 ⊕ Nat) × zx_H)} (hk147 : ∀ (a0 : Nat) (a1 : Int32) (a2 : Nat) (a3 : Nat) (a4 : Nat) (a5 : Int32) (a6 : Int32) (a7 : Int32) (h : zx_H) (r : (Int32 ⊕ Nat)) (h' : zx_H), k147 a0 a1 a2 a3 a4 a5 a6 a7 h = some (r, h') → zx_T sc (d + 6) 196 (147, [(0, .ref a0), (2, .int a1), (3, .ref a2), (4, .ref a3), (5, .ref a4), (6, .int a5), (7, .int a6), (9, .int a7)], []) h (zf_oIx r) h') : ∀ (n : Nat) (p0 : Nat) (p1 : Int32) (p2 : Nat) (p3 : Nat) (p4 : Nat) (p5 : Int32) (p6 : Int32) (p7 : Int32) (p8 : Int32) (p9 : Int32) (h : zx_H) (r : (Int32 ⊕ Nat)) (h' : zx_H), f_ColumnVaultLaw_isRemoved_220 k147 n p0 p1 p2 p3 p4 p5 p6 p7 p8 p9 h = some (r, h') → zx_T sc (d + 6) 196 (220, [(0, .ref p0), (2, .int p1), (3, .ref p2), (4, .ref p3), (5, .ref p4), (6, .int p5), (7, .int p6), (9, .int p7), (10, .int p8), (11, .int p9)], []) h (zf_oIx r) h' := by
  intro n
  induction n with
  | zero => intro p0 p1 p2 p3 p4 p5 p6 p7 p8 p9 h r h' hf; cases hf
  | succ n ih =>
    intro p0 p1 p2 p3 p4 p5 p6 p7 p8 p9 h r h' hf
    unfold f_ColumnVaultLaw_isRemoved_220 at hf
    refine zv_p (k := 3) (f' := (226, [(0, .ref p0), (2, .int p1), (3, .ref p2), (4, .ref p3), (5, .ref p4), (6, .int p5), (7, .int p6), (9, .int p7), (10, .int p8), (11, .int p9)], [.int p7, .ref p4, .int p9])) zq_196 zo_196 (by with_unfolding_all rfl) ?_
    replace hf := zf_be hf
    obtain ⟨v1, hv, hf⟩ := hf
    refine zv_ldA zq_196 zo_196 rfl hv ?_
    replace hf := zf_be hf
    obtain ⟨v2, hv, hf⟩ := hf
    refine zv_len zq_196 zo_196 rfl hv ?_
    replace hf := zf_ite hf
    obtain ⟨hc, hf⟩ | ⟨hc, hf⟩ := hf
    · refine zv_brT (off := 32) (tt := 260) (r := []) zq_196 zo_196 hc rfl rfl rfl ?_
      refine zv_p (k := 2) (f' := (147, [(9, .int (p7 + (1 : Int32))), (0, .ref p0), (2, .int p1), (3, .ref p2), (4, .ref p3), (5, .ref p4), (6, .int p5), (7, .int p6), (10, .int p8), (11, .int p9)], [])) zq_196 zo_196 (by with_unfolding_all rfl) ?_
      refine zv_pick (lv' := [(0, .ref p0), (2, .int p1), (3, .ref p2), (4, .ref p3), (5, .ref p4), (6, .int p5), (7, .int p6), (9, .int (p7 + (1 : Int32)))]) [0, 2, 3, 4, 5, 6, 7, 9] rfl rfl ?_
      exact hk147 _ _ _ _ _ _ _ _ _ _ _ hf
    · refine zv_brF (off := 32) (tt := 260) (r := []) zq_196 zo_196 hc rfl rfl rfl ?_
      refine zv_p (k := 4) (f' := (237, [(0, .ref p0), (2, .int p1), (3, .ref p2), (4, .ref p3), (5, .ref p4), (6, .int p5), (7, .int p6), (9, .int p7), (10, .int p8), (11, .int p9)], [.int p9, .int p8, .int p1, .ref p0])) zq_196 zo_196 (by with_unfolding_all rfl) ?_
      replace hf := zf_be hf
      obtain ⟨_, ho, hf⟩ := hf
      replace hf := zf_b3e hf
      obtain ⟨v3, h4, hv, hf⟩ | ⟨E5, h4, hv, hf⟩ := hf
      rotate_left
      · cases hf; exact zv_cx zq_196 zo_196 rfl rfl rfl rfl rfl (zv_cv rfl rfl rfl (zf_ise ho) rfl) (t_f_ColumnVault_get _ _ _ _ _ _ _ hv) rfl
      refine zv_c zq_196 zo_196 rfl rfl rfl rfl rfl (zv_cv rfl rfl rfl (zf_ise ho) rfl) (t_f_ColumnVault_get _ _ _ _ _ _ _ hv) ?_
      refine zv_p (k := 2) (f' := (244, [(0, .ref p0), (2, .int p1), (3, .ref p2), (4, .ref p3), (5, .ref p4), (6, .int p5), (7, .int p6), (9, .int p7), (10, .int p8), (11, .int p9)], [.int p7, .ref p4, .long v3])) zq_196 zo_196 (by with_unfolding_all rfl) ?_
      replace hf := zf_be hf
      obtain ⟨v6, hv, hf⟩ := hf
      refine zv_ldA zq_196 zo_196 rfl hv ?_
      refine zv_p (k := 1) (f' := (247, [(0, .ref p0), (2, .int p1), (3, .ref p2), (4, .ref p3), (5, .ref p4), (6, .int p5), (7, .int p6), (9, .int p7), (10, .int p8), (11, .int p9)], [.int p9, .ref v6, .long v3])) zq_196 zo_196 (by with_unfolding_all rfl) ?_
      replace hf := zf_be hf
      obtain ⟨v7, hv, hf⟩ := hf
      refine zv_ldJ zq_196 zo_196 rfl hv ?_
      refine zv_p (k := 1) (f' := (249, [(0, .ref p0), (2, .int p1), (3, .ref p2), (4, .ref p3), (5, .ref p4), (6, .int p5), (7, .int p6), (9, .int p7), (10, .int p8), (11, .int p9)], [.int (lg_cmp v3 v7)])) zq_196 zo_196 (by with_unfolding_all rfl) ?_
      replace hf := zf_ite hf
      obtain ⟨hc, hf⟩ | ⟨hc, hf⟩ := hf
      · refine zv_brT (off := 5) (tt := 254) (r := []) zq_196 zo_196 (zl_eq.mpr hc) rfl rfl rfl ?_
        refine zv_p (k := 2) (f' := (220, [(11, .int (p9 + (1 : Int32))), (0, .ref p0), (2, .int p1), (3, .ref p2), (4, .ref p3), (5, .ref p4), (6, .int p5), (7, .int p6), (9, .int p7), (10, .int p8)], [])) zq_196 zo_196 (by with_unfolding_all rfl) ?_
        refine zv_pick (lv' := [(0, .ref p0), (2, .int p1), (3, .ref p2), (4, .ref p3), (5, .ref p4), (6, .int p5), (7, .int p6), (9, .int p7), (10, .int p8), (11, .int (p9 + (1 : Int32)))]) [0, 2, 3, 4, 5, 6, 7, 9, 10, 11] rfl rfl ?_
        exact ih _ _ _ _ _ _ _ _ _ _ _ _ _ hf
      · refine zv_brF (off := 5) (tt := 254) (r := []) zq_196 zo_196 (mt zl_eq.mp hc) rfl rfl rfl ?_
        refine zv_p (k := 1) (f' := (253, [(0, .ref p0), (2, .int p1), (3, .ref p2), (4, .ref p3), (5, .ref p4), (6, .int p5), (7, .int p6), (9, .int p7), (10, .int p8), (11, .int p9)], [.int (0 : Int32)])) zq_196 zo_196 (by with_unfolding_all rfl) ?_
        cases hf
        exact zv_rn zq_196 zo_196 rfl rfl
set_option maxHeartbeats 1000000 in
def f_ColumnVaultLaw_isRemoved_181 (k147 : Nat → Int32 → Nat → Nat → Nat → Int32 → Int32 → Int32 → zx_H → Option ((Int32 ⊕ Nat) × zx_H)) (p0 : Nat) (p1 : Int32) (p2 : Nat) (p3 : Nat) (p4 : Nat) (p5 : Int32) (p6 : Int32) (p7 : Int32) (p8 : Int32) (h : zx_H) : Option ((Int32 ⊕ Nat) × zx_H) :=
  zf_b (zf_is 12 p0 h) fun _ =>
  zf_b3 (f_ColumnVault_isChosen p0 p1 p8 h) fun v1 h2 =>
  zf_b (zf_ldB p3 p7 h2) fun v4 =>
  if ¬ v1 = v4 then
    some (.inl (0 : Int32), h2)
  else
    zf_b (zf_is 12 p0 h2) fun _ =>
    zf_b3 (f_ColumnVault_placeOf p0 p1 p8 h2) fun v5 h6 =>
    zf_b (zf_is 12 p0 h6) fun _ =>
    zf_b3 (f_ColumnVault_rowAt p0 p1 v5 h6) fun v8 h9 =>
    if v8 = p8 then
      f_ColumnVaultLaw_isRemoved_220 k147 zF p0 p1 p2 p3 p4 p5 p6 p7 p8 (0 : Int32) h9
    else
      some (.inl (0 : Int32), h9)
set_option maxHeartbeats 4000000 in
set_option maxRecDepth 400000 in
theorem t_f_ColumnVaultLaw_isRemoved_181 {sc : (Nat × (Nat → Int32)) × Bool} {d : Nat} {k147 : Nat → Int32 → Nat → Nat → Nat → Int32 → Int32 → Int32 → zx_H → Option ((Int32 ⊕ Nat) × zx_H)} (hk147 : ∀ (a0 : Nat) (a1 : Int32) (a2 : Nat) (a3 : Nat) (a4 : Nat) (a5 : Int32) (a6 : Int32) (a7 : Int32) (h : zx_H) (r : (Int32 ⊕ Nat)) (h' : zx_H), k147 a0 a1 a2 a3 a4 a5 a6 a7 h = some (r, h') → zx_T sc (d + 6) 196 (147, [(0, .ref a0), (2, .int a1), (3, .ref a2), (4, .ref a3), (5, .ref a4), (6, .int a5), (7, .int a6), (9, .int a7)], []) h (zf_oIx r) h') (p0 : Nat) (p1 : Int32) (p2 : Nat) (p3 : Nat) (p4 : Nat) (p5 : Int32) (p6 : Int32) (p7 : Int32) (p8 : Int32) (h : zx_H) (r : (Int32 ⊕ Nat)) (h' : zx_H) (hf : f_ColumnVaultLaw_isRemoved_181 k147 p0 p1 p2 p3 p4 p5 p6 p7 p8 h = some (r, h')) : zx_T sc (d + 6) 196 (181, [(0, .ref p0), (2, .int p1), (3, .ref p2), (4, .ref p3), (5, .ref p4), (6, .int p5), (7, .int p6), (9, .int p7)], [.int p8]) h (zf_oIx r) h' := by
  unfold f_ColumnVaultLaw_isRemoved_181 at hf
  refine zv_p (k := 4) (f' := (187, [(10, .int p8), (0, .ref p0), (2, .int p1), (3, .ref p2), (4, .ref p3), (5, .ref p4), (6, .int p5), (7, .int p6), (9, .int p7)], [.int p8, .int p1, .ref p0])) zq_196 zo_196 (by with_unfolding_all rfl) ?_
  replace hf := zf_be hf
  obtain ⟨_, ho, hf⟩ := hf
  replace hf := zf_b3e hf
  obtain ⟨v1, h2, hv, hf⟩ | ⟨E3, h2, hv, hf⟩ := hf
  rotate_left
  · cases hf; exact zv_cx zq_196 zo_196 rfl rfl rfl rfl rfl (zv_cv rfl rfl rfl (zf_ise ho) rfl) (t_f_ColumnVault_isChosen _ _ _ _ _ _ hv) rfl
  refine zv_c zq_196 zo_196 rfl rfl rfl rfl rfl (zv_cv rfl rfl rfl (zf_ise ho) rfl) (t_f_ColumnVault_isChosen _ _ _ _ _ _ hv) ?_
  refine zv_p (k := 2) (f' := (194, [(10, .int p8), (0, .ref p0), (2, .int p1), (3, .ref p2), (4, .ref p3), (5, .ref p4), (6, .int p5), (7, .int p6), (9, .int p7)], [.int p7, .ref p3, .int v1])) zq_196 zo_196 (by with_unfolding_all rfl) ?_
  replace hf := zf_be hf
  obtain ⟨v4, hv, hf⟩ := hf
  refine zv_ldB zq_196 zo_196 rfl hv ?_
  replace hf := zf_ite hf
  obtain ⟨hc, hf⟩ | ⟨hc, hf⟩ := hf
  · refine zv_brT (off := 20) (tt := 215) (r := []) zq_196 zo_196 hc rfl rfl rfl ?_
    refine zv_p (k := 1) (f' := (216, [(10, .int p8), (0, .ref p0), (2, .int p1), (3, .ref p2), (4, .ref p3), (5, .ref p4), (6, .int p5), (7, .int p6), (9, .int p7)], [.int (0 : Int32)])) zq_196 zo_196 (by with_unfolding_all rfl) ?_
    cases hf
    exact zv_rn zq_196 zo_196 rfl rfl
  · refine zv_brF (off := 20) (tt := 215) (r := []) zq_196 zo_196 hc rfl rfl rfl ?_
    refine zv_p (k := 5) (f' := (204, [(10, .int p8), (0, .ref p0), (2, .int p1), (3, .ref p2), (4, .ref p3), (5, .ref p4), (6, .int p5), (7, .int p6), (9, .int p7)], [.int p8, .int p1, .ref p0, .int p1, .ref p0])) zq_196 zo_196 (by with_unfolding_all rfl) ?_
    replace hf := zf_be hf
    obtain ⟨_, ho, hf⟩ := hf
    replace hf := zf_b3e hf
    obtain ⟨v5, h6, hv, hf⟩ | ⟨E7, h6, hv, hf⟩ := hf
    rotate_left
    · cases hf; exact zv_cx zq_196 zo_196 rfl rfl rfl rfl rfl (zv_cv rfl rfl rfl (zf_ise ho) rfl) (t_f_ColumnVault_placeOf _ _ _ _ _ _ hv) rfl
    refine zv_c zq_196 zo_196 rfl rfl rfl rfl rfl (zv_cv rfl rfl rfl (zf_ise ho) rfl) (t_f_ColumnVault_placeOf _ _ _ _ _ _ hv) ?_
    replace hf := zf_be hf
    obtain ⟨_, ho, hf⟩ := hf
    replace hf := zf_b3e hf
    obtain ⟨v8, h9, hv, hf⟩ | ⟨E10, h9, hv, hf⟩ := hf
    rotate_left
    · cases hf; exact zv_cx zq_196 zo_196 rfl rfl rfl rfl rfl (zv_cv rfl rfl rfl (zf_ise ho) rfl) (t_f_ColumnVault_rowAt _ _ _ _ _ _ hv) rfl
    refine zv_c zq_196 zo_196 rfl rfl rfl rfl rfl (zv_cv rfl rfl rfl (zf_ise ho) rfl) (t_f_ColumnVault_rowAt _ _ _ _ _ _ hv) ?_
    refine zv_p (k := 1) (f' := (212, [(10, .int p8), (0, .ref p0), (2, .int p1), (3, .ref p2), (4, .ref p3), (5, .ref p4), (6, .int p5), (7, .int p6), (9, .int p7)], [.int p8, .int v8])) zq_196 zo_196 (by with_unfolding_all rfl) ?_
    replace hf := zf_ite hf
    obtain ⟨hc, hf⟩ | ⟨hc, hf⟩ := hf
    · refine zv_brT (off := 5) (tt := 217) (r := []) zq_196 zo_196 hc rfl rfl rfl ?_
      refine zv_p (k := 2) (f' := (220, [(11, .int (0 : Int32)), (10, .int p8), (0, .ref p0), (2, .int p1), (3, .ref p2), (4, .ref p3), (5, .ref p4), (6, .int p5), (7, .int p6), (9, .int p7)], [])) zq_196 zo_196 (by with_unfolding_all rfl) ?_
      refine zv_pick (lv' := [(0, .ref p0), (2, .int p1), (3, .ref p2), (4, .ref p3), (5, .ref p4), (6, .int p5), (7, .int p6), (9, .int p7), (10, .int p8), (11, .int (0 : Int32))]) [0, 2, 3, 4, 5, 6, 7, 9, 10, 11] rfl rfl ?_
      exact t_f_ColumnVaultLaw_isRemoved_220 hk147 zF _ _ _ _ _ _ _ _ _ _ _ _ _ hf
    · refine zv_brF (off := 5) (tt := 217) (r := []) zq_196 zo_196 hc rfl rfl rfl ?_
      refine zv_p (k := 1) (f' := (216, [(10, .int p8), (0, .ref p0), (2, .int p1), (3, .ref p2), (4, .ref p3), (5, .ref p4), (6, .int p5), (7, .int p6), (9, .int p7)], [.int (0 : Int32)])) zq_196 zo_196 (by with_unfolding_all rfl) ?_
      cases hf
      exact zv_rn zq_196 zo_196 rfl rfl
set_option maxHeartbeats 1000000 in
def f_ColumnVaultLaw_isRemoved_314 : Nat → Nat → Int32 → Int32 → Int32 → Int32 → Int32 → zx_H → Option ((Int32 ⊕ Nat) × zx_H)
  | 0, _, _, _, _, _, _, _ => none
  | n + 1, p0, p1, p2, p3, p4, p5, h =>
    zf_b (zf_is 12 p0 h) fun _ =>
    zf_b3 (f_ColumnVault_size p0 p1 (1 : Int32) h) fun v1 h2 =>
    if v1 ≤ p5 then
      if p4 = 0 then
        some (.inl (0 : Int32), h2)
      else
        zf_b (zf_is 12 p0 h2) fun _ =>
        zf_b2 (f_ColumnVault_version p0 h2) fun v4 h5 =>
        if ¬ v4 = (p2 + (2 : Int32)) then
          some (.inl (0 : Int32), h5)
        else
          some (.inl (1 : Int32), h5)
    else
      zf_b (zf_is 12 p0 h2) fun _ =>
      zf_b3 (f_ColumnVault_get p0 p1 p3 p5 h2) fun v6 h7 =>
      if ¬ v6 = (-9000000000 : Int64) then
        (f_ColumnVaultLaw_isRemoved_314 n) p0 p1 p2 p3 (p4 &&& (0 : Int32)) (p5 + (1 : Int32)) h7
      else
        (f_ColumnVaultLaw_isRemoved_314 n) p0 p1 p2 p3 (p4 &&& (1 : Int32)) (p5 + (1 : Int32)) h7
set_option maxHeartbeats 4000000 in
set_option maxRecDepth 400000 in
theorem t_f_ColumnVaultLaw_isRemoved_314 {sc : (Nat × (Nat → Int32)) × Bool} {d : Nat} : ∀ (n : Nat) (p0 : Nat) (p1 : Int32) (p2 : Int32) (p3 : Int32) (p4 : Int32) (p5 : Int32) (h : zx_H) (r : (Int32 ⊕ Nat)) (h' : zx_H), f_ColumnVaultLaw_isRemoved_314 n p0 p1 p2 p3 p4 p5 h = some (r, h') → zx_T sc (d + 6) 196 (314, [(0, .ref p0), (2, .int p1), (7, .int p2), (9, .int p3), (10, .int p4), (11, .int p5)], []) h (zf_oIx r) h' := by
  intro n
  induction n with
  | zero => intro p0 p1 p2 p3 p4 p5 h r h' hf; cases hf
  | succ n ih =>
    intro p0 p1 p2 p3 p4 p5 h r h' hf
    unfold f_ColumnVaultLaw_isRemoved_314 at hf
    refine zv_p (k := 4) (f' := (319, [(0, .ref p0), (2, .int p1), (7, .int p2), (9, .int p3), (10, .int p4), (11, .int p5)], [.int (1 : Int32), .int p1, .ref p0, .int p5])) zq_196 zo_196 (by with_unfolding_all rfl) ?_
    replace hf := zf_be hf
    obtain ⟨_, ho, hf⟩ := hf
    replace hf := zf_b3e hf
    obtain ⟨v1, h2, hv, hf⟩ | ⟨E3, h2, hv, hf⟩ := hf
    rotate_left
    · cases hf; exact zv_cx zq_196 zo_196 rfl rfl rfl rfl rfl (zv_cv rfl rfl rfl (zf_ise ho) rfl) (t_f_ColumnVault_size _ _ _ _ _ _ hv) rfl
    refine zv_c zq_196 zo_196 rfl rfl rfl rfl rfl (zv_cv rfl rfl rfl (zf_ise ho) rfl) (t_f_ColumnVault_size _ _ _ _ _ _ hv) ?_
    replace hf := zf_ite hf
    obtain ⟨hc, hf⟩ | ⟨hc, hf⟩ := hf
    · refine zv_brT (off := 35) (tt := 357) (r := []) zq_196 zo_196 hc rfl rfl rfl ?_
      refine zv_p (k := 1) (f' := (359, [(0, .ref p0), (2, .int p1), (7, .int p2), (9, .int p3), (10, .int p4), (11, .int p5)], [.int p4])) zq_196 zo_196 (by with_unfolding_all rfl) ?_
      replace hf := zf_ite hf
      obtain ⟨hc, hf⟩ | ⟨hc, hf⟩ := hf
      · refine zv_brT (off := 18) (tt := 377) (r := []) zq_196 zo_196 hc rfl rfl rfl ?_
        refine zv_p (k := 1) (f' := (378, [(0, .ref p0), (2, .int p1), (7, .int p2), (9, .int p3), (10, .int p4), (11, .int p5)], [.int (0 : Int32)])) zq_196 zo_196 (by with_unfolding_all rfl) ?_
        cases hf
        exact zv_rn zq_196 zo_196 rfl rfl
      · refine zv_brF (off := 18) (tt := 377) (r := []) zq_196 zo_196 hc rfl rfl rfl ?_
        refine zv_p (k := 1) (f' := (363, [(0, .ref p0), (2, .int p1), (7, .int p2), (9, .int p3), (10, .int p4), (11, .int p5)], [.ref p0])) zq_196 zo_196 (by with_unfolding_all rfl) ?_
        replace hf := zf_be hf
        obtain ⟨_, ho, hf⟩ := hf
        replace hf := zf_b2e hf
        obtain ⟨v4, h5, hv, hf⟩ := hf
        refine zv_c zq_196 zo_196 rfl rfl rfl rfl rfl (zv_cv rfl rfl rfl (zf_ise ho) rfl) (t_f_ColumnVault_version _ _ _ _ hv) ?_
        refine zv_p (k := 3) (f' := (370, [(0, .ref p0), (2, .int p1), (7, .int p2), (9, .int p3), (10, .int p4), (11, .int p5)], [.int (p2 + (2 : Int32)), .int v4])) zq_196 zo_196 (by with_unfolding_all rfl) ?_
        replace hf := zf_ite hf
        obtain ⟨hc, hf⟩ | ⟨hc, hf⟩ := hf
        · refine zv_brT (off := 7) (tt := 377) (r := []) zq_196 zo_196 hc rfl rfl rfl ?_
          refine zv_p (k := 1) (f' := (378, [(0, .ref p0), (2, .int p1), (7, .int p2), (9, .int p3), (10, .int p4), (11, .int p5)], [.int (0 : Int32)])) zq_196 zo_196 (by with_unfolding_all rfl) ?_
          cases hf
          exact zv_rn zq_196 zo_196 rfl rfl
        · refine zv_brF (off := 7) (tt := 377) (r := []) zq_196 zo_196 hc rfl rfl rfl ?_
          refine zv_p (k := 2) (f' := (378, [(0, .ref p0), (2, .int p1), (7, .int p2), (9, .int p3), (10, .int p4), (11, .int p5)], [.int (1 : Int32)])) zq_196 zo_196 (by with_unfolding_all rfl) ?_
          cases hf
          exact zv_rn zq_196 zo_196 rfl rfl
    · refine zv_brF (off := 35) (tt := 357) (r := []) zq_196 zo_196 hc rfl rfl rfl ?_
      refine zv_p (k := 5) (f' := (333, [(0, .ref p0), (2, .int p1), (7, .int p2), (9, .int p3), (10, .int p4), (11, .int p5)], [.int p5, .int p3, .int p1, .ref p0, .int p4])) zq_196 zo_196 (by with_unfolding_all rfl) ?_
      replace hf := zf_be hf
      obtain ⟨_, ho, hf⟩ := hf
      replace hf := zf_b3e hf
      obtain ⟨v6, h7, hv, hf⟩ | ⟨E8, h7, hv, hf⟩ := hf
      rotate_left
      · cases hf; exact zv_cx zq_196 zo_196 rfl rfl rfl rfl rfl (zv_cv rfl rfl rfl (zf_ise ho) rfl) (t_f_ColumnVault_get _ _ _ _ _ _ _ hv) rfl
      refine zv_c zq_196 zo_196 rfl rfl rfl rfl rfl (zv_cv rfl rfl rfl (zf_ise ho) rfl) (t_f_ColumnVault_get _ _ _ _ _ _ _ hv) ?_
      refine zv_lng zq_196 zo_196 rfl rfl ?_
      refine zv_p (k := 1) (f' := (340, [(0, .ref p0), (2, .int p1), (7, .int p2), (9, .int p3), (10, .int p4), (11, .int p5)], [.int (lg_cmp v6 (-9000000000 : Int64)), .int p4])) zq_196 zo_196 (by with_unfolding_all rfl) ?_
      replace hf := zf_ite hf
      obtain ⟨hc, hf⟩ | ⟨hc, hf⟩ := hf
      · refine zv_brT (off := 7) (tt := 347) (r := [.int p4]) zq_196 zo_196 (zl_ne.mpr hc) rfl rfl rfl ?_
        refine zv_p (k := 5) (f' := (314, [(11, .int (p5 + (1 : Int32))), (10, .int (p4 &&& (0 : Int32))), (0, .ref p0), (2, .int p1), (7, .int p2), (9, .int p3)], [])) zq_196 zo_196 (by with_unfolding_all rfl) ?_
        refine zv_pick (lv' := [(0, .ref p0), (2, .int p1), (7, .int p2), (9, .int p3), (10, .int (p4 &&& (0 : Int32))), (11, .int (p5 + (1 : Int32)))]) [0, 2, 7, 9, 10, 11] rfl rfl ?_
        exact ih _ _ _ _ _ _ _ _ _ hf
      · refine zv_brF (off := 7) (tt := 347) (r := [.int p4]) zq_196 zo_196 (mt zl_ne.mp hc) rfl rfl rfl ?_
        refine zv_p (k := 6) (f' := (314, [(11, .int (p5 + (1 : Int32))), (10, .int (p4 &&& (1 : Int32))), (0, .ref p0), (2, .int p1), (7, .int p2), (9, .int p3)], [])) zq_196 zo_196 (by with_unfolding_all rfl) ?_
        refine zv_pick (lv' := [(0, .ref p0), (2, .int p1), (7, .int p2), (9, .int p3), (10, .int (p4 &&& (1 : Int32))), (11, .int (p5 + (1 : Int32)))]) [0, 2, 7, 9, 10, 11] rfl rfl ?_
        exact ih _ _ _ _ _ _ _ _ _ hf
set_option maxHeartbeats 1000000 in
def f_ColumnVaultLaw_isRemoved_147 : Nat → Nat → Int32 → Nat → Nat → Nat → Int32 → Int32 → Int32 → zx_H → Option ((Int32 ⊕ Nat) × zx_H)
  | 0, _, _, _, _, _, _, _, _, _ => none
  | n + 1, p0, p1, p2, p3, p4, p5, p6, p7, h =>
    zf_b (zf_len p4 h) fun v1 =>
    if v1 ≤ p7 then
      zf_b (zf_is 12 p0 h) fun _ =>
      zf_b3 (f_ColumnVault_addRow p0 p1 h) fun v2 h3 =>
      zf_b (zf_len p2 h3) fun v5 =>
      if ¬ v2 = (v5 - (1 : Int32)) then
        f_ColumnVaultLaw_isRemoved_314 zF p0 p1 p6 v2 (0 : Int32) (0 : Int32) h3
      else
        zf_b (zf_is 12 p0 h3) fun _ =>
        zf_b3 (f_ColumnVault_placeOf p0 p1 v2 h3) fun v6 h7 =>
        if ¬ v6 = v2 then
          f_ColumnVaultLaw_isRemoved_314 zF p0 p1 p6 v2 (0 : Int32) (0 : Int32) h7
        else
          zf_b (zf_is 12 p0 h7) fun _ =>
          zf_b3 (f_ColumnVault_isChosen p0 p1 v2 h7) fun v9 h10 =>
          if v9 = 0 then
            f_ColumnVaultLaw_isRemoved_314 zF p0 p1 p6 v2 (0 : Int32) (0 : Int32) h10
          else
            f_ColumnVaultLaw_isRemoved_314 zF p0 p1 p6 v2 (1 : Int32) (0 : Int32) h10
    else
      if ¬ p7 = p5 then
        if p7 ≤ p5 then
          f_ColumnVaultLaw_isRemoved_181 (f_ColumnVaultLaw_isRemoved_147 n) p0 p1 p2 p3 p4 p5 p6 p7 p7 h
        else
          f_ColumnVaultLaw_isRemoved_181 (f_ColumnVaultLaw_isRemoved_147 n) p0 p1 p2 p3 p4 p5 p6 p7 (p7 - (1 : Int32)) h
      else
        (f_ColumnVaultLaw_isRemoved_147 n) p0 p1 p2 p3 p4 p5 p6 (p7 + (1 : Int32)) h
set_option maxHeartbeats 4000000 in
set_option maxRecDepth 400000 in
theorem t_f_ColumnVaultLaw_isRemoved_147 {sc : (Nat × (Nat → Int32)) × Bool} {d : Nat} : ∀ (n : Nat) (p0 : Nat) (p1 : Int32) (p2 : Nat) (p3 : Nat) (p4 : Nat) (p5 : Int32) (p6 : Int32) (p7 : Int32) (h : zx_H) (r : (Int32 ⊕ Nat)) (h' : zx_H), f_ColumnVaultLaw_isRemoved_147 n p0 p1 p2 p3 p4 p5 p6 p7 h = some (r, h') → zx_T sc (d + 6) 196 (147, [(0, .ref p0), (2, .int p1), (3, .ref p2), (4, .ref p3), (5, .ref p4), (6, .int p5), (7, .int p6), (9, .int p7)], []) h (zf_oIx r) h' := by
  intro n
  induction n with
  | zero => intro p0 p1 p2 p3 p4 p5 p6 p7 h r h' hf; cases hf
  | succ n ih =>
    intro p0 p1 p2 p3 p4 p5 p6 p7 h r h' hf
    unfold f_ColumnVaultLaw_isRemoved_147 at hf
    refine zv_p (k := 2) (f' := (151, [(0, .ref p0), (2, .int p1), (3, .ref p2), (4, .ref p3), (5, .ref p4), (6, .int p5), (7, .int p6), (9, .int p7)], [.ref p4, .int p7])) zq_196 zo_196 (by with_unfolding_all rfl) ?_
    replace hf := zf_be hf
    obtain ⟨v1, hv, hf⟩ := hf
    refine zv_len zq_196 zo_196 rfl hv ?_
    replace hf := zf_ite hf
    obtain ⟨hc, hf⟩ | ⟨hc, hf⟩ := hf
    · refine zv_brT (off := 114) (tt := 266) (r := []) zq_196 zo_196 hc rfl rfl rfl ?_
      refine zv_p (k := 2) (f' := (268, [(0, .ref p0), (2, .int p1), (3, .ref p2), (4, .ref p3), (5, .ref p4), (6, .int p5), (7, .int p6), (9, .int p7)], [.int p1, .ref p0])) zq_196 zo_196 (by with_unfolding_all rfl) ?_
      replace hf := zf_be hf
      obtain ⟨_, ho, hf⟩ := hf
      replace hf := zf_b3e hf
      obtain ⟨v2, h3, hv, hf⟩ | ⟨E4, h3, hv, hf⟩ := hf
      rotate_left
      · cases hf; exact zv_cx zq_196 zo_196 rfl rfl rfl rfl rfl (zv_cv rfl rfl rfl (zf_ise ho) rfl) (t_f_ColumnVault_addRow _ _ _ _ _ hv) rfl
      refine zv_c zq_196 zo_196 rfl rfl rfl rfl rfl (zv_cv rfl rfl rfl (zf_ise ho) rfl) (t_f_ColumnVault_addRow _ _ _ _ _ hv) ?_
      refine zv_p (k := 3) (f' := (276, [(9, .int v2), (0, .ref p0), (2, .int p1), (3, .ref p2), (4, .ref p3), (5, .ref p4), (6, .int p5), (7, .int p6)], [.ref p2, .int v2])) zq_196 zo_196 (by with_unfolding_all rfl) ?_
      replace hf := zf_be hf
      obtain ⟨v5, hv, hf⟩ := hf
      refine zv_len zq_196 zo_196 rfl hv ?_
      refine zv_p (k := 2) (f' := (279, [(9, .int v2), (0, .ref p0), (2, .int p1), (3, .ref p2), (4, .ref p3), (5, .ref p4), (6, .int p5), (7, .int p6)], [.int (v5 - (1 : Int32)), .int v2])) zq_196 zo_196 (by with_unfolding_all rfl) ?_
      replace hf := zf_ite hf
      obtain ⟨hc, hf⟩ | ⟨hc, hf⟩ := hf
      · refine zv_brT (off := 29) (tt := 308) (r := []) zq_196 zo_196 hc rfl rfl rfl ?_
        refine zv_p (k := 4) (f' := (314, [(11, .int (0 : Int32)), (10, .int (0 : Int32)), (9, .int v2), (0, .ref p0), (2, .int p1), (3, .ref p2), (4, .ref p3), (5, .ref p4), (6, .int p5), (7, .int p6)], [])) zq_196 zo_196 (by with_unfolding_all rfl) ?_
        refine zv_pick (lv' := [(0, .ref p0), (2, .int p1), (7, .int p6), (9, .int v2), (10, .int (0 : Int32)), (11, .int (0 : Int32))]) [0, 2, 7, 9, 10, 11] rfl rfl ?_
        exact t_f_ColumnVaultLaw_isRemoved_314 zF _ _ _ _ _ _ _ _ _ hf
      · refine zv_brF (off := 29) (tt := 308) (r := []) zq_196 zo_196 hc rfl rfl rfl ?_
        refine zv_p (k := 3) (f' := (286, [(9, .int v2), (0, .ref p0), (2, .int p1), (3, .ref p2), (4, .ref p3), (5, .ref p4), (6, .int p5), (7, .int p6)], [.int v2, .int p1, .ref p0])) zq_196 zo_196 (by with_unfolding_all rfl) ?_
        replace hf := zf_be hf
        obtain ⟨_, ho, hf⟩ := hf
        replace hf := zf_b3e hf
        obtain ⟨v6, h7, hv, hf⟩ | ⟨E8, h7, hv, hf⟩ := hf
        rotate_left
        · cases hf; exact zv_cx zq_196 zo_196 rfl rfl rfl rfl rfl (zv_cv rfl rfl rfl (zf_ise ho) rfl) (t_f_ColumnVault_placeOf _ _ _ _ _ _ hv) rfl
        refine zv_c zq_196 zo_196 rfl rfl rfl rfl rfl (zv_cv rfl rfl rfl (zf_ise ho) rfl) (t_f_ColumnVault_placeOf _ _ _ _ _ _ hv) ?_
        refine zv_p (k := 1) (f' := (291, [(9, .int v2), (0, .ref p0), (2, .int p1), (3, .ref p2), (4, .ref p3), (5, .ref p4), (6, .int p5), (7, .int p6)], [.int v2, .int v6])) zq_196 zo_196 (by with_unfolding_all rfl) ?_
        replace hf := zf_ite hf
        obtain ⟨hc, hf⟩ | ⟨hc, hf⟩ := hf
        · refine zv_brT (off := 17) (tt := 308) (r := []) zq_196 zo_196 hc rfl rfl rfl ?_
          refine zv_p (k := 4) (f' := (314, [(11, .int (0 : Int32)), (10, .int (0 : Int32)), (9, .int v2), (0, .ref p0), (2, .int p1), (3, .ref p2), (4, .ref p3), (5, .ref p4), (6, .int p5), (7, .int p6)], [])) zq_196 zo_196 (by with_unfolding_all rfl) ?_
          refine zv_pick (lv' := [(0, .ref p0), (2, .int p1), (7, .int p6), (9, .int v2), (10, .int (0 : Int32)), (11, .int (0 : Int32))]) [0, 2, 7, 9, 10, 11] rfl rfl ?_
          exact t_f_ColumnVaultLaw_isRemoved_314 zF _ _ _ _ _ _ _ _ _ hf
        · refine zv_brF (off := 17) (tt := 308) (r := []) zq_196 zo_196 hc rfl rfl rfl ?_
          refine zv_p (k := 3) (f' := (298, [(9, .int v2), (0, .ref p0), (2, .int p1), (3, .ref p2), (4, .ref p3), (5, .ref p4), (6, .int p5), (7, .int p6)], [.int v2, .int p1, .ref p0])) zq_196 zo_196 (by with_unfolding_all rfl) ?_
          replace hf := zf_be hf
          obtain ⟨_, ho, hf⟩ := hf
          replace hf := zf_b3e hf
          obtain ⟨v9, h10, hv, hf⟩ | ⟨E11, h10, hv, hf⟩ := hf
          rotate_left
          · cases hf; exact zv_cx zq_196 zo_196 rfl rfl rfl rfl rfl (zv_cv rfl rfl rfl (zf_ise ho) rfl) (t_f_ColumnVault_isChosen _ _ _ _ _ _ hv) rfl
          refine zv_c zq_196 zo_196 rfl rfl rfl rfl rfl (zv_cv rfl rfl rfl (zf_ise ho) rfl) (t_f_ColumnVault_isChosen _ _ _ _ _ _ hv) ?_
          replace hf := zf_ite hf
          obtain ⟨hc, hf⟩ | ⟨hc, hf⟩ := hf
          · refine zv_brT (off := 7) (tt := 308) (r := []) zq_196 zo_196 hc rfl rfl rfl ?_
            refine zv_p (k := 4) (f' := (314, [(11, .int (0 : Int32)), (10, .int (0 : Int32)), (9, .int v2), (0, .ref p0), (2, .int p1), (3, .ref p2), (4, .ref p3), (5, .ref p4), (6, .int p5), (7, .int p6)], [])) zq_196 zo_196 (by with_unfolding_all rfl) ?_
            refine zv_pick (lv' := [(0, .ref p0), (2, .int p1), (7, .int p6), (9, .int v2), (10, .int (0 : Int32)), (11, .int (0 : Int32))]) [0, 2, 7, 9, 10, 11] rfl rfl ?_
            exact t_f_ColumnVaultLaw_isRemoved_314 zF _ _ _ _ _ _ _ _ _ hf
          · refine zv_brF (off := 7) (tt := 308) (r := []) zq_196 zo_196 hc rfl rfl rfl ?_
            refine zv_p (k := 5) (f' := (314, [(11, .int (0 : Int32)), (10, .int (1 : Int32)), (9, .int v2), (0, .ref p0), (2, .int p1), (3, .ref p2), (4, .ref p3), (5, .ref p4), (6, .int p5), (7, .int p6)], [])) zq_196 zo_196 (by with_unfolding_all rfl) ?_
            refine zv_pick (lv' := [(0, .ref p0), (2, .int p1), (7, .int p6), (9, .int v2), (10, .int (1 : Int32)), (11, .int (0 : Int32))]) [0, 2, 7, 9, 10, 11] rfl rfl ?_
            exact t_f_ColumnVaultLaw_isRemoved_314 zF _ _ _ _ _ _ _ _ _ hf
    · refine zv_brF (off := 114) (tt := 266) (r := []) zq_196 zo_196 hc rfl rfl rfl ?_
      refine zv_p (k := 2) (f' := (159, [(0, .ref p0), (2, .int p1), (3, .ref p2), (4, .ref p3), (5, .ref p4), (6, .int p5), (7, .int p6), (9, .int p7)], [.int p5, .int p7])) zq_196 zo_196 (by with_unfolding_all rfl) ?_
      replace hf := zf_ite hf
      obtain ⟨hc, hf⟩ | ⟨hc, hf⟩ := hf
      · refine zv_brT (off := 6) (tt := 165) (r := []) zq_196 zo_196 hc rfl rfl rfl ?_
        refine zv_p (k := 2) (f' := (169, [(0, .ref p0), (2, .int p1), (3, .ref p2), (4, .ref p3), (5, .ref p4), (6, .int p5), (7, .int p6), (9, .int p7)], [.int p5, .int p7])) zq_196 zo_196 (by with_unfolding_all rfl) ?_
        replace hf := zf_ite hf
        obtain ⟨hc, hf⟩ | ⟨hc, hf⟩ := hf
        · refine zv_brT (off := 10) (tt := 179) (r := []) zq_196 zo_196 hc rfl rfl rfl ?_
          refine zv_p (k := 1) (f' := (181, [(0, .ref p0), (2, .int p1), (3, .ref p2), (4, .ref p3), (5, .ref p4), (6, .int p5), (7, .int p6), (9, .int p7)], [.int p7])) zq_196 zo_196 (by with_unfolding_all rfl) ?_
          refine zv_pick (lv' := [(0, .ref p0), (2, .int p1), (3, .ref p2), (4, .ref p3), (5, .ref p4), (6, .int p5), (7, .int p6), (9, .int p7)]) [0, 2, 3, 4, 5, 6, 7, 9] rfl rfl ?_
          exact t_f_ColumnVaultLaw_isRemoved_181 ih _ _ _ _ _ _ _ _ _ _ _ _ hf
        · refine zv_brF (off := 10) (tt := 179) (r := []) zq_196 zo_196 hc rfl rfl rfl ?_
          refine zv_p (k := 4) (f' := (181, [(0, .ref p0), (2, .int p1), (3, .ref p2), (4, .ref p3), (5, .ref p4), (6, .int p5), (7, .int p6), (9, .int p7)], [.int (p7 - (1 : Int32))])) zq_196 zo_196 (by with_unfolding_all rfl) ?_
          refine zv_pick (lv' := [(0, .ref p0), (2, .int p1), (3, .ref p2), (4, .ref p3), (5, .ref p4), (6, .int p5), (7, .int p6), (9, .int p7)]) [0, 2, 3, 4, 5, 6, 7, 9] rfl rfl ?_
          exact t_f_ColumnVaultLaw_isRemoved_181 ih _ _ _ _ _ _ _ _ _ _ _ _ hf
      · refine zv_brF (off := 6) (tt := 165) (r := []) zq_196 zo_196 hc rfl rfl rfl ?_
        refine zv_p (k := 3) (f' := (147, [(9, .int (p7 + (1 : Int32))), (0, .ref p0), (2, .int p1), (3, .ref p2), (4, .ref p3), (5, .ref p4), (6, .int p5), (7, .int p6)], [])) zq_196 zo_196 (by with_unfolding_all rfl) ?_
        refine zv_pick (lv' := [(0, .ref p0), (2, .int p1), (3, .ref p2), (4, .ref p3), (5, .ref p4), (6, .int p5), (7, .int p6), (9, .int (p7 + (1 : Int32)))]) [0, 2, 3, 4, 5, 6, 7, 9] rfl rfl ?_
        exact ih _ _ _ _ _ _ _ _ _ _ _ hf
