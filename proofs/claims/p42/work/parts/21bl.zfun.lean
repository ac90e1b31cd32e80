set_option maxHeartbeats 1000000 in
def f_Long_getChars (p0 : Int64) (p1 : Int32) (p2 : Nat) (h : zx_H) : Option (Int32 × zx_H) :=
  if (0 : Int64) ≤ p0 then
    if ¬ (0 : Int32) = 0 then
      f_Long_getChars_24 zF p0 p2 p1 (0 : Int32) h
    else
      f_Long_getChars_24 zF (-p0) p2 p1 (0 : Int32) h
  else
    if ¬ (1 : Int32) = 0 then
      f_Long_getChars_24 zF p0 p2 p1 (1 : Int32) h
    else
      f_Long_getChars_24 zF (-p0) p2 p1 (1 : Int32) h
set_option maxHeartbeats 4000000 in
set_option maxRecDepth 400000 in
theorem t_f_Long_getChars {sc : (Nat × (Nat → Int32)) × Bool} {d : Nat} (p0 : Int64) (p1 : Int32) (p2 : Nat) (h : zx_H) (r : Int32) (h' : zx_H) (hf : f_Long_getChars p0 p1 p2 h = some (r, h')) : zx_T sc d 266 (0, [(0, .long p0), (2, .int p1), (3, .ref p2)], []) h (zf_oI r) h' := by
  unfold f_Long_getChars at hf
  refine zv_p (k := 5) (f' := (6, [(7, .int p1), (0, .long p0), (2, .int p1), (3, .ref p2)], [.int (lg_cmp p0 (0 : Int64))])) zq_266 zo_266 (by with_unfolding_all rfl) ?_
  replace hf := zf_ite hf
  obtain ⟨hc, hf⟩ | ⟨hc, hf⟩ := hf
  · refine zv_brT (off := 7) (tt := 13) (r := []) zq_266 zo_266 (zl_ge.mpr hc) rfl rfl rfl ?_
    refine zv_p (k := 3) (f' := (18, [(8, .int (0 : Int32)), (7, .int p1), (0, .long p0), (2, .int p1), (3, .ref p2)], [.int (0 : Int32)])) zq_266 zo_266 (by with_unfolding_all rfl) ?_
    replace hf := zf_ite hf
    obtain ⟨hc, hf⟩ | ⟨hc, hf⟩ := hf
    · refine zv_brT (off := 6) (tt := 24) (r := []) zq_266 zo_266 hc rfl rfl rfl ?_
      refine zv_pick (lv' := [(0, .long p0), (3, .ref p2), (7, .int p1), (8, .int (0 : Int32))]) [0, 3, 7, 8] rfl rfl ?_
      exact t_f_Long_getChars_24 zF _ _ _ _ _ _ _ hf
    · refine zv_brF (off := 6) (tt := 24) (r := []) zq_266 zo_266 hc rfl rfl rfl ?_
      refine zv_p (k := 3) (f' := (24, [(0, .long (-p0)), (8, .int (0 : Int32)), (7, .int p1), (2, .int p1), (3, .ref p2)], [])) zq_266 zo_266 (by with_unfolding_all rfl) ?_
      refine zv_pick (lv' := [(0, .long (-p0)), (3, .ref p2), (7, .int p1), (8, .int (0 : Int32))]) [0, 3, 7, 8] rfl rfl ?_
      exact t_f_Long_getChars_24 zF _ _ _ _ _ _ _ hf
  · refine zv_brF (off := 7) (tt := 13) (r := []) zq_266 zo_266 (mt zl_ge.mp hc) rfl rfl rfl ?_
    refine zv_p (k := 4) (f' := (18, [(8, .int (1 : Int32)), (7, .int p1), (0, .long p0), (2, .int p1), (3, .ref p2)], [.int (1 : Int32)])) zq_266 zo_266 (by with_unfolding_all rfl) ?_
    replace hf := zf_ite hf
    obtain ⟨hc, hf⟩ | ⟨hc, hf⟩ := hf
    · refine zv_brT (off := 6) (tt := 24) (r := []) zq_266 zo_266 hc rfl rfl rfl ?_
      refine zv_pick (lv' := [(0, .long p0), (3, .ref p2), (7, .int p1), (8, .int (1 : Int32))]) [0, 3, 7, 8] rfl rfl ?_
      exact t_f_Long_getChars_24 zF _ _ _ _ _ _ _ hf
    · refine zv_brF (off := 6) (tt := 24) (r := []) zq_266 zo_266 hc rfl rfl rfl ?_
      refine zv_p (k := 3) (f' := (24, [(0, .long (-p0)), (8, .int (1 : Int32)), (7, .int p1), (2, .int p1), (3, .ref p2)], [])) zq_266 zo_266 (by with_unfolding_all rfl) ?_
      refine zv_pick (lv' := [(0, .long (-p0)), (3, .ref p2), (7, .int p1), (8, .int (1 : Int32))]) [0, 3, 7, 8] rfl rfl ?_
      exact t_f_Long_getChars_24 zF _ _ _ _ _ _ _ hf
/-! AbstractStringBuilder.append (J)Ljava/lang/AbstractStringBuilder; -/
noncomputable def zI_264 : zd_T := [[(0, .aload_n 0, 1), (1, .getfield 79, 3), (4, .istore_n 3, 1), (5, .iload_n 3, 1), (6, .lload_n 1, 1), (7, .invokestatic 254, 3), (10, .iadd, 1), (11, .istore 4, 2), (13, .aload_n 0, 1), (14, .iload 4, 2), (16, .invokevirtual 100, 3), (19, .aload_n 0, 1), (20, .invokevirtual 83, 3), (23, .ifCond .eq 17, 3), (26, .lload_n 1, 1), (27, .iload 4, 2), (29, .aload_n 0, 1), (30, .getfield 15, 3)], [(33, .invokestatic 259, 3), (36, .pop, 1), (37, .goto 15, 3), (40, .lload_n 1, 1), (41, .iload_n 3, 1), (42, .iload 4, 2), (44, .aload_n 0, 1), (45, .getfield 15, 3), (48, .invokestatic 262, 3), (51, .pop, 1), (52, .aload_n 0, 1), (53, .iload 4, 2), (55, .putfield 79, 3), (58, .aload_n 0, 1), (59, .areturn, 1)]]
theorem zo_264 : zd_of 264 = some zI_264 := rfl
set_option maxRecDepth 100000 in
theorem zq_264 : zt_m[264]? = some (⟨"java/lang/AbstractStringBuilder", "append", "(J)Ljava/lang/AbstractStringBuilder;"⟩, prog_17_method_33_code, 5, some (.object "java/lang/AbstractStringBuilder"), [], 20, 1, 0, 0, 99999, 0) := rfl
set_option maxHeartbeats 1000000 in
def f_AbstractStringBuilder_appendq4 (p0 : Nat) (p1 : Int64) (h : zx_H) : Option (Nat × zx_H) :=
  zf_b (zf_I 1 3 p0 h) fun v1 =>
  zf_b2 (f_Long_stringSize p1 h) fun v2 h3 =>
  zf_b (zf_is 1 p0 h3) fun _ =>
  zf_b2 (f_AbstractStringBuilder_ensureCapacityInternal p0 (v1 + v2) h3) fun _ h5 =>
  zf_b2 (fv_0 p0 h5) fun v6 h7 =>
  if v6 = 0 then
    zf_b (zf_A 1 0 p0 h7) fun v8 =>
    none
  else
    zf_b (zf_A 1 0 p0 h7) fun v9 =>
    zf_b2 (f_Long_getChars p1 (v1 + v2) v9 h7) fun v10 h11 =>
    zf_b (zf_put 1 3 p0 (.int (v1 + v2)) h11) fun h12 =>
    some (p0, h12)
set_option maxHeartbeats 4000000 in
set_option maxRecDepth 400000 in
theorem t_f_AbstractStringBuilder_appendq4 {sc : (Nat × (Nat → Int32)) × Bool} {d : Nat} (p0 : Nat) (p1 : Int64) (h : zx_H) (r : Nat) (h' : zx_H) (hf : f_AbstractStringBuilder_appendq4 p0 p1 h = some (r, h')) : zx_T sc (d + 4) 264 (0, [(0, .ref p0), (1, .long p1)], []) h (zf_oA r) h' := by
  unfold f_AbstractStringBuilder_appendq4 at hf
  refine zv_p (k := 1) (f' := (1, [(0, .ref p0), (1, .long p1)], [.ref p0])) zq_264 zo_264 (by with_unfolding_all rfl) ?_
  replace hf := zf_be hf
  obtain ⟨v1, hv, hf⟩ := hf
  refine zv_gf zq_264 zo_264 rfl rfl rfl (zf_Ie hv) ?_
  refine zv_p (k := 3) (f' := (7, [(3, .int v1), (0, .ref p0), (1, .long p1)], [.long p1, .int v1])) zq_264 zo_264 (by with_unfolding_all rfl) ?_
  replace hf := zf_b2e hf
  obtain ⟨v2, h3, hv, hf⟩ := hf
  refine zv_c zq_264 zo_264 rfl rfl rfl rfl rfl rfl (t_f_Long_stringSize _ _ _ _ hv) ?_
  refine zv_p (k := 4) (f' := (16, [(4, .int (v1 + v2)), (3, .int v1), (0, .ref p0), (1, .long p1)], [.int (v1 + v2), .ref p0])) zq_264 zo_264 (by with_unfolding_all rfl) ?_
  replace hf := zf_be hf
  obtain ⟨_, ho, hf⟩ := hf
  replace hf := zf_b2e hf
  obtain ⟨v4, h5, hv, hf⟩ := hf
  refine zv_c zq_264 zo_264 rfl rfl rfl rfl rfl (zv_cp rfl rfl rfl (zf_ise ho) rfl) (t_f_AbstractStringBuilder_ensureCapacityInternal _ _ _ _ _ hv) ?_
  refine zv_p (k := 1) (f' := (20, [(4, .int (v1 + v2)), (3, .int v1), (0, .ref p0), (1, .long p1)], [.ref p0])) zq_264 zo_264 (by with_unfolding_all rfl) ?_
  replace hf := zf_b2e hf
  obtain ⟨v6, h7, hv, hf⟩ := hf
  obtain ⟨mj, hcl, hrun⟩ := tv_0 hv
  refine zv_c zq_264 zo_264 rfl rfl rfl rfl rfl (hcl _ _ _ _ _ _ rfl rfl rfl rfl) hrun ?_
  replace hf := zf_ite hf
  obtain ⟨hc, hf⟩ | ⟨hc, hf⟩ := hf
  · refine zv_brT (off := 17) (tt := 40) (r := []) zq_264 zo_264 hc rfl rfl rfl ?_
    refine zv_p (k := 4) (f' := (45, [(4, .int (v1 + v2)), (3, .int v1), (0, .ref p0), (1, .long p1)], [.ref p0, .int (v1 + v2), .int v1, .long p1])) zq_264 zo_264 (by with_unfolding_all rfl) ?_
    replace hf := zf_be hf
    obtain ⟨v8, hv, hf⟩ := hf
    refine zv_gf zq_264 zo_264 rfl rfl rfl (zf_Ae hv) ?_
    cases hf
  · refine zv_brF (off := 17) (tt := 40) (r := []) zq_264 zo_264 hc rfl rfl rfl ?_
    refine zv_p (k := 3) (f' := (30, [(4, .int (v1 + v2)), (3, .int v1), (0, .ref p0), (1, .long p1)], [.ref p0, .int (v1 + v2), .long p1])) zq_264 zo_264 (by with_unfolding_all rfl) ?_
    replace hf := zf_be hf
    obtain ⟨v9, hv, hf⟩ := hf
    refine zv_gf zq_264 zo_264 rfl rfl rfl (zf_Ae hv) ?_
    replace hf := zf_b2e hf
    obtain ⟨v10, h11, hv, hf⟩ := hf
    refine zv_c zq_264 zo_264 rfl rfl rfl rfl rfl rfl (t_f_Long_getChars _ _ _ _ _ _ hv) ?_
    refine zv_p (k := 4) (f' := (55, [(4, .int (v1 + v2)), (3, .int v1), (0, .ref p0), (1, .long p1)], [.int (v1 + v2), .ref p0])) zq_264 zo_264 (by with_unfolding_all rfl) ?_
    replace hf := zf_be hf
    obtain ⟨h12, hv, hf⟩ := hf
    refine zv_pf zq_264 zo_264 rfl rfl rfl rfl hv ?_
    refine zv_p (k := 1) (f' := (59, [(4, .int (v1 + v2)), (3, .int v1), (0, .ref p0), (1, .long p1)], [.ref p0])) zq_264 zo_264 (by with_unfolding_all rfl) ?_
    cases hf
    exact zv_r zq_264 zo_264 rfl rfl rfl rfl rfl
/-! StringBuilder.append (J)Ljava/lang/StringBuilder; -/
noncomputable def zI_263 : zd_T := [[(0, .aload_n 0, 1), (1, .lload_n 1, 1), (2, .invokespecial 56, 3), (5, .pop, 1), (6, .aload_n 0, 1), (7, .areturn, 1)]]
theorem zo_263 : zd_of 263 = some zI_263 := rfl
set_option maxRecDepth 100000 in
theorem zq_263 : zt_m[263]? = some (⟨"java/lang/StringBuilder", "append", "(J)Ljava/lang/StringBuilder;"⟩, prog_32_method_16_code, 3, some (.object "java/lang/StringBuilder"), [], 1, 1, 0, 0, 0, 0) := rfl
set_option maxHeartbeats 1000000 in
def f_StringBuilder_appendq5 (p0 : Nat) (p1 : Int64) (h : zx_H) : Option (Nat × zx_H) :=
  zf_b (zf_is 1 p0 h) fun _ =>
  zf_b2 (f_AbstractStringBuilder_appendq4 p0 p1 h) fun v1 h2 =>
  some (p0, h2)
set_option maxHeartbeats 4000000 in
set_option maxRecDepth 400000 in
theorem t_f_StringBuilder_appendq5 {sc : (Nat × (Nat → Int32)) × Bool} {d : Nat} (p0 : Nat) (p1 : Int64) (h : zx_H) (r : Nat) (h' : zx_H) (hf : f_StringBuilder_appendq5 p0 p1 h = some (r, h')) : zx_T sc (d + 5) 263 (0, [(0, .ref p0), (1, .long p1)], []) h (zf_oA r) h' := by
  unfold f_StringBuilder_appendq5 at hf
  refine zv_p (k := 2) (f' := (2, [(0, .ref p0), (1, .long p1)], [.long p1, .ref p0])) zq_263 zo_263 (by with_unfolding_all rfl) ?_
  replace hf := zf_be hf
  obtain ⟨_, ho, hf⟩ := hf
  replace hf := zf_b2e hf
  obtain ⟨v1, h2, hv, hf⟩ := hf
  refine zv_c zq_263 zo_263 rfl rfl rfl rfl rfl (zv_cs rfl rfl rfl (zf_ise ho) rfl) (t_f_AbstractStringBuilder_appendq4 _ _ _ _ _ hv) ?_
  refine zv_p (k := 2) (f' := (7, [(0, .ref p0), (1, .long p1)], [.ref p0])) zq_263 zo_263 (by with_unfolding_all rfl) ?_
  cases hf
  exact zv_r zq_263 zo_263 rfl rfl rfl rfl rfl
/-! ColumnVaultLaw.test (arr ILColumnVault;ILjava/lang/StringBuilder;arr I)arr Z -/
noncomputable def zI_262 : zd_T := [[(0, .aload 4, 2), (2, .iconst 0, 1), (3, .dup2, 1), (4, .iaload, 1), (5, .iconst 1, 1), (6, .iadd, 1), (7, .iastore, 1), (8, .aload_n 0, 1), (9, .aload_n 1, 1), (10, .iload_n 2, 1), (11, .iconst 1, 1), (12, .invokevirtual 147, 3), (15, .invokestatic 16, 3), (18, .istore 5, 2), (20, .aload_n 1, 1), (21, .iload_n 2, 1), (22, .iload 5, 2), (24, .invokevirtual 166, 3), (27, .istore 6, 2), (29, .aload_n 0, 1), (30, .bipush 6, 2)], [(32, .invokestatic 16, 3), (35, .istore 7, 2), (37, .iload 7, 2), (39, .iconst 3, 1), (40, .if_icmp .ge 7, 3), (43, .iconst 1, 1), (44, .goto 31, 3), (47, .iload 7, 2), (49, .iconst 3, 1), (50, .if_icmp .ne 7, 3), (53, .iconst 2, 1), (54, .goto 21, 3), (57, .iload 7, 2), (59, .iconst 4, 1), (60, .if_icmp .ne 14, 3), (63, .iconst 1, 1)], [(64, .aload_n 0, 1), (65, .bipush 6, 2), (67, .invokestatic 16, 3), (70, .iadd, 1), (71, .goto 4, 3), (74, .iconst 0, 1), (75, .istore 8, 2), (77, .iload 8, 2), (79, .newarray .long, 2), (81, .astore 9, 2), (83, .aload_n 3, 1), (84, .ldc 217, 2), (86, .invokevirtual 219, 3), (89, .iload 5, 2), (91, .invokevirtual 222, 3), (94, .aload_n 0, 1), (95, .iconst 2, 1)], [(96, .invokestatic 16, 3), (99, .ifCond .ne 8, 3), (102, .ldc 225, 2), (104, .goto 5, 3), (107, .ldc 227, 2), (109, .invokevirtual 219, 3), (112, .iload 7, 2), (114, .ifCond .ne 8, 3), (117, .ldc 229, 2), (119, .goto 49, 3), (122, .iload 7, 2), (124, .iconst 1, 1), (125, .if_icmp .ne 8, 3)], [(128, .ldc 231, 2), (130, .goto 38, 3), (133, .iload 7, 2), (135, .iconst 2, 1), (136, .if_icmp .ne 8, 3), (139, .ldc 233, 2), (141, .goto 27, 3), (144, .iload 7, 2), (146, .iconst 3, 1), (147, .if_icmp .ne 8, 3), (150, .ldc 235, 2), (152, .goto 16, 3), (155, .iload 7, 2), (157, .iconst 4, 1), (158, .if_icmp .ne 8, 3)], [(161, .ldc 237, 2), (163, .goto 5, 3), (166, .ldc 239, 2), (168, .invokevirtual 219, 3), (171, .pop, 1), (172, .iconst 0, 1), (173, .istore 10, 2), (175, .iload 10, 2), (177, .iload 8, 2), (179, .if_icmp .ge 89, 3), (182, .aload 9, 2), (184, .iload 10, 2), (186, .aload_n 0, 1), (187, .iload 6, 2), (189, .invokestatic 169, 3)], [(192, .lastore, 1), (193, .aload_n 3, 1), (194, .iload 7, 2), (196, .iconst 2, 1), (197, .if_icmp .gt 11, 3), (200, .aload_n 0, 1), (201, .iconst 3, 1), (202, .invokestatic 16, 3), (205, .ifCond .ne 8, 3), (208, .ldc 225, 2), (210, .goto 5, 3), (213, .ldc 227, 2), (215, .invokevirtual 219, 3), (218, .iload 6, 2), (220, .iconst 1, 1), (221, .if_icmp .ne 14, 3)], [(224, .aload 9, 2), (226, .iload 10, 2), (228, .laload, 1), (229, .invokestatic 56, 3), (232, .goto 26, 3), (235, .new 13, 3), (238, .dup, 1), (239, .invokespecial 15, 3), (242, .ldc 227, 2), (244, .invokevirtual 219, 3), (247, .aload 9, 2), (249, .iload 10, 2), (251, .laload, 1), (252, .invokevirtual 241, 3), (255, .invokevirtual 26, 3)], [(258, .invokevirtual 219, 3), (261, .pop, 1), (262, .iinc 10 1, 3), (265, .goto (-90), 3), (268, .aload_n 1, 1), (269, .iload_n 2, 1), (270, .iconst 0, 1), (271, .invokevirtual 147, 3), (274, .newarray .boolean, 2), (276, .astore 10, 2), (278, .iconst 0, 1), (279, .istore 11, 2), (281, .iload 11, 2), (283, .aload 10, 2), (285, .arraylength, 1), (286, .if_icmp .ge 213, 3)], [(289, .aload_n 1, 1), (290, .iload_n 2, 1), (291, .iload 11, 2), (293, .iload 5, 2), (295, .invokevirtual 91, 3), (298, .lstore 12, 2), (300, .lload 12, 2), (302, .ldc2_w 204, 3), (305, .lcmp, 1), (306, .ifCond .eq 9, 3), (309, .iload 7, 2), (311, .iconst 5, 1), (312, .if_icmp .ne 31, 3), (315, .aload 10, 2), (317, .iload 11, 2), (319, .lload 12, 2)], [(321, .ldc2_w 204, 3), (324, .lcmp, 1), (325, .ifCond .ne 13, 3), (328, .iload 7, 2), (330, .iconst 5, 1), (331, .if_icmp .ne 7, 3), (334, .iconst 1, 1), (335, .goto 4, 3), (338, .iconst 0, 1), (339, .bastore, 1), (340, .goto 153, 3), (343, .iload 6, 2), (345, .lload 12, 2), (347, .aload 9, 2), (349, .iconst 0, 1), (350, .laload, 1), (351, .invokestatic 210, 3)], [(354, .istore 14, 2), (356, .aload 10, 2), (358, .iload 11, 2), (360, .iload 7, 2), (362, .ifCond .ne 16, 3), (365, .iload 14, 2), (367, .ifCond .ge 7, 3), (370, .iconst 1, 1), (371, .goto 75, 3), (374, .iconst 0, 1), (375, .goto 71, 3), (378, .iload 7, 2), (380, .iconst 1, 1), (381, .if_icmp .ne 16, 3)], [(384, .iload 14, 2), (386, .ifCond .le 7, 3), (389, .iconst 1, 1), (390, .goto 56, 3), (393, .iconst 0, 1), (394, .goto 52, 3), (397, .iload 7, 2), (399, .iconst 2, 1), (400, .if_icmp .ne 16, 3), (403, .iload 14, 2), (405, .ifCond .ne 7, 3), (408, .iconst 1, 1), (409, .goto 37, 3), (412, .iconst 0, 1), (413, .goto 33, 3)], [(416, .iload 7, 2), (418, .iconst 3, 1), (419, .if_icmp .ne 26, 3), (422, .iload 14, 2), (424, .ifCond .lt 21, 3), (427, .iload 6, 2), (429, .lload 12, 2), (431, .aload 9, 2), (433, .iconst 1, 1), (434, .laload, 1), (435, .invokestatic 210, 3), (438, .ifCond .gt 7, 3), (441, .iconst 1, 1), (442, .goto 4, 3), (445, .iconst 0, 1), (446, .bastore, 1), (447, .iconst 0, 1)], [(448, .istore 15, 2), (450, .iload 15, 2), (452, .iload 8, 2), (454, .if_icmp .ge 39, 3), (457, .iload 7, 2), (459, .iconst 4, 1), (460, .if_icmp .ne 33, 3), (463, .aload 10, 2), (465, .iload 11, 2), (467, .dup2, 1), (468, .baload, 1), (469, .lload 12, 2), (471, .aload 9, 2), (473, .iload 15, 2), (475, .laload, 1), (476, .lcmp, 1), (477, .ifCond .ne 7, 3)], [(480, .iconst 1, 1), (481, .goto 4, 3), (484, .iconst 0, 1), (485, .ior, 1), (486, .bastore, 1), (487, .iinc 15 1, 3), (490, .goto (-40), 3), (493, .iinc 11 1, 3), (496, .goto (-215), 3), (499, .aload 10, 2), (501, .areturn, 1)]]
theorem zo_262 : zd_of 262 = some zI_262 := rfl
set_option maxRecDepth 100000 in
theorem zq_262 : zt_m[262]? = some (⟨"ColumnVaultLaw", "test", "([ILColumnVault;ILjava/lang/StringBuilder;[I)[Z"⟩, method_18_code, 16, some (.array (.boolean)), [], 17, 5, 0, 1, 99999, 0) := rfl
set_option maxHeartbeats 1000000 in
def f_ColumnVaultLaw_test_215 (k175 : Nat → Nat → Int32 → Nat → Int32 → Int32 → Int32 → Int32 → Nat → Int32 → zx_H → Option ((Nat ⊕ Nat) × zx_H)) (p0 : Nat) (p1 : Nat) (p2 : Int32) (p3 : Nat) (p4 : Int32) (p5 : Int32) (p6 : Int32) (p7 : Int32) (p8 : Nat) (p9 : Int32) (p10 : Nat) (p11 : Nat) (h : zx_H) : Option ((Nat ⊕ Nat) × zx_H) :=
  zf_b (zf_is 1 p10 h) fun _ =>
  zf_b2 (f_StringBuilder_appendq3 p10 p11 h) fun v1 h2 =>
  if ¬ p5 = (1 : Int32) then
    zf_b2 (zf_new 1 h2) fun q3 h4 =>
    zf_b2 (f_StringBuilder_init q3 h4) fun _ h6 =>
    zf_b (zf_is 1 q3 h6) fun _ =>
    zf_b2 (f_StringBuilder_appendq3 q3 (zx_lim + 1 + 604) h6) fun v7 h8 =>
    zf_b (zf_ldJ p8 p9 h8) fun v9 =>
    zf_b (zf_is 1 v7 h8) fun _ =>
    zf_b2 (f_StringBuilder_appendq5 v7 v9 h8) fun v10 h11 =>
    zf_b (zf_is 1 v10 h11) fun _ =>
    zf_b2 (f_StringBuilder_toString v10 h11) fun v12 h13 =>
    zf_b (zf_is 1 v1 h13) fun _ =>
    zf_b2 (f_StringBuilder_appendq3 v1 v12 h13) fun v14 h15 =>
    k175 p0 p1 p2 p3 p4 p5 p6 p7 p8 (p9 + (1 : Int32)) h15
  else
    zf_b (zf_ldJ p8 p9 h2) fun v16 =>
    zf_b2 (f_ColumnVaultLaw_word v16 h2) fun v17 h18 =>
    zf_b (zf_is 1 v1 h18) fun _ =>
    zf_b2 (f_StringBuilder_appendq3 v1 v17 h18) fun v19 h20 =>
    k175 p0 p1 p2 p3 p4 p5 p6 p7 p8 (p9 + (1 : Int32)) h20
set_option maxHeartbeats 4000000 in
set_option maxRecDepth 400000 in
theorem t_f_ColumnVaultLaw_test_215 {sc : (Nat × (Nat → Int32)) × Bool} {d : Nat} {k175 : Nat → Nat → Int32 → Nat → Int32 → Int32 → Int32 → Int32 → Nat → Int32 → zx_H → Option ((Nat ⊕ Nat) × zx_H)} (hk175 : ∀ (a0 : Nat) (a1 : Nat) (a2 : Int32) (a3 : Nat) (a4 : Int32) (a5 : Int32) (a6 : Int32) (a7 : Int32) (a8 : Nat) (a9 : Int32) (h : zx_H) (r : (Nat ⊕ Nat)) (h' : zx_H), k175 a0 a1 a2 a3 a4 a5 a6 a7 a8 a9 h = some (r, h') → zx_T sc (d + 8) 262 (175, [(0, .ref a0), (1, .ref a1), (2, .int a2), (3, .ref a3), (5, .int a4), (6, .int a5), (7, .int a6), (8, .int a7), (9, .ref a8), (10, .int a9)], []) h (zf_oAx r) h') (p0 : Nat) (p1 : Nat) (p2 : Int32) (p3 : Nat) (p4 : Int32) (p5 : Int32) (p6 : Int32) (p7 : Int32) (p8 : Nat) (p9 : Int32) (p10 : Nat) (p11 : Nat) (h : zx_H) (r : (Nat ⊕ Nat)) (h' : zx_H) (hf : f_ColumnVaultLaw_test_215 k175 p0 p1 p2 p3 p4 p5 p6 p7 p8 p9 p10 p11 h = some (r, h')) : zx_T sc (d + 8) 262 (215, [(0, .ref p0), (1, .ref p1), (2, .int p2), (3, .ref p3), (5, .int p4), (6, .int p5), (7, .int p6), (8, .int p7), (9, .ref p8), (10, .int p9)], [.ref p11, .ref p10]) h (zf_oAx r) h' := by
  unfold f_ColumnVaultLaw_test_215 at hf
  replace hf := zf_be hf
  obtain ⟨_, ho, hf⟩ := hf
  replace hf := zf_b2e hf
  obtain ⟨v1, h2, hv, hf⟩ := hf
  refine zv_c zq_262 zo_262 rfl rfl rfl rfl rfl (zv_cv rfl rfl rfl (zf_ise ho) rfl) (t_f_StringBuilder_appendq3 _ _ _ _ _ hv) ?_
  refine zv_p (k := 2) (f' := (221, [(0, .ref p0), (1, .ref p1), (2, .int p2), (3, .ref p3), (5, .int p4), (6, .int p5), (7, .int p6), (8, .int p7), (9, .ref p8), (10, .int p9)], [.int (1 : Int32), .int p5, .ref v1])) zq_262 zo_262 (by with_unfolding_all rfl) ?_
  replace hf := zf_ite hf
  obtain ⟨hc, hf⟩ | ⟨hc, hf⟩ := hf
  · refine zv_brT (off := 14) (tt := 235) (r := [.ref v1]) zq_262 zo_262 hc rfl rfl rfl ?_
    replace hf := zf_b2e hf
    obtain ⟨q3, h4, hv, hf⟩ := hf
    refine zv_new zq_262 zo_262 rfl rfl rfl hv ?_
    refine zv_p (k := 1) (f' := (239, [(0, .ref p0), (1, .ref p1), (2, .int p2), (3, .ref p3), (5, .int p4), (6, .int p5), (7, .int p6), (8, .int p7), (9, .ref p8), (10, .int p9)], [.ref q3, .ref q3, .ref v1])) zq_262 zo_262 (by with_unfolding_all rfl) ?_
    replace hf := zf_b2e hf
    obtain ⟨v5, h6, hv, hf⟩ := hf
    refine zv_c zq_262 zo_262 rfl rfl rfl rfl rfl rfl (t_f_StringBuilder_init _ _ _ _ hv) ?_
    refine zv_str zq_262 zo_262 rfl rfl ?_
    replace hf := zf_be hf
    obtain ⟨_, ho, hf⟩ := hf
    replace hf := zf_b2e hf
    obtain ⟨v7, h8, hv, hf⟩ := hf
    refine zv_c zq_262 zo_262 rfl rfl rfl rfl rfl (zv_cv rfl rfl rfl (zf_ise ho) rfl) (t_f_StringBuilder_appendq3 _ _ _ _ _ hv) ?_
    refine zv_p (k := 2) (f' := (251, [(0, .ref p0), (1, .ref p1), (2, .int p2), (3, .ref p3), (5, .int p4), (6, .int p5), (7, .int p6), (8, .int p7), (9, .ref p8), (10, .int p9)], [.int p9, .ref p8, .ref v7, .ref v1])) zq_262 zo_262 (by with_unfolding_all rfl) ?_
    replace hf := zf_be hf
    obtain ⟨v9, hv, hf⟩ := hf
    refine zv_ldJ zq_262 zo_262 rfl hv ?_
    replace hf := zf_be hf
    obtain ⟨_, ho, hf⟩ := hf
    replace hf := zf_b2e hf
    obtain ⟨v10, h11, hv, hf⟩ := hf
    refine zv_c zq_262 zo_262 rfl rfl rfl rfl rfl (zv_cv rfl rfl rfl (zf_ise ho) rfl) (t_f_StringBuilder_appendq5 _ _ _ _ _ hv) ?_
    replace hf := zf_be hf
    obtain ⟨_, ho, hf⟩ := hf
    replace hf := zf_b2e hf
    obtain ⟨v12, h13, hv, hf⟩ := hf
    refine zv_c zq_262 zo_262 rfl rfl rfl rfl rfl (zv_cv rfl rfl rfl (zf_ise ho) rfl) (t_f_StringBuilder_toString _ _ _ _ hv) ?_
    replace hf := zf_be hf
    obtain ⟨_, ho, hf⟩ := hf
    replace hf := zf_b2e hf
    obtain ⟨v14, h15, hv, hf⟩ := hf
    refine zv_c zq_262 zo_262 rfl rfl rfl rfl rfl (zv_cv rfl rfl rfl (zf_ise ho) rfl) (t_f_StringBuilder_appendq3 _ _ _ _ _ hv) ?_
    refine zv_p (k := 3) (f' := (175, [(10, .int (p9 + (1 : Int32))), (0, .ref p0), (1, .ref p1), (2, .int p2), (3, .ref p3), (5, .int p4), (6, .int p5), (7, .int p6), (8, .int p7), (9, .ref p8)], [])) zq_262 zo_262 (by with_unfolding_all rfl) ?_
    refine zv_pick (lv' := [(0, .ref p0), (1, .ref p1), (2, .int p2), (3, .ref p3), (5, .int p4), (6, .int p5), (7, .int p6), (8, .int p7), (9, .ref p8), (10, .int (p9 + (1 : Int32)))]) [0, 1, 2, 3, 5, 6, 7, 8, 9, 10] rfl rfl ?_
    exact hk175 _ _ _ _ _ _ _ _ _ _ _ _ _ hf
  · refine zv_brF (off := 14) (tt := 235) (r := [.ref v1]) zq_262 zo_262 hc rfl rfl rfl ?_
    refine zv_p (k := 2) (f' := (228, [(0, .ref p0), (1, .ref p1), (2, .int p2), (3, .ref p3), (5, .int p4), (6, .int p5), (7, .int p6), (8, .int p7), (9, .ref p8), (10, .int p9)], [.int p9, .ref p8, .ref v1])) zq_262 zo_262 (by with_unfolding_all rfl) ?_
    replace hf := zf_be hf
    obtain ⟨v16, hv, hf⟩ := hf
    refine zv_ldJ zq_262 zo_262 rfl hv ?_
    replace hf := zf_b2e hf
    obtain ⟨v17, h18, hv, hf⟩ := hf
    refine zv_c zq_262 zo_262 rfl rfl rfl rfl rfl rfl (t_f_ColumnVaultLaw_word _ _ _ _ hv) ?_
    refine zv_p (k := 1) (f' := (258, [(0, .ref p0), (1, .ref p1), (2, .int p2), (3, .ref p3), (5, .int p4), (6, .int p5), (7, .int p6), (8, .int p7), (9, .ref p8), (10, .int p9)], [.ref v17, .ref v1])) zq_262 zo_262 (by with_unfolding_all rfl) ?_
    replace hf := zf_be hf
    obtain ⟨_, ho, hf⟩ := hf
    replace hf := zf_b2e hf
    obtain ⟨v19, h20, hv, hf⟩ := hf
    refine zv_c zq_262 zo_262 rfl rfl rfl rfl rfl (zv_cv rfl rfl rfl (zf_ise ho) rfl) (t_f_StringBuilder_appendq3 _ _ _ _ _ hv) ?_
    refine zv_p (k := 3) (f' := (175, [(10, .int (p9 + (1 : Int32))), (0, .ref p0), (1, .ref p1), (2, .int p2), (3, .ref p3), (5, .int p4), (6, .int p5), (7, .int p6), (8, .int p7), (9, .ref p8)], [])) zq_262 zo_262 (by with_unfolding_all rfl) ?_
    refine zv_pick (lv' := [(0, .ref p0), (1, .ref p1), (2, .int p2), (3, .ref p3), (5, .int p4), (6, .int p5), (7, .int p6), (8, .int p7), (9, .ref p8), (10, .int (p9 + (1 : Int32)))]) [0, 1, 2, 3, 5, 6, 7, 8, 9, 10] rfl rfl ?_
    exact hk175 _ _ _ _ _ _ _ _ _ _ _ _ _ hf
set_option maxHeartbeats 1000000 in
def f_ColumnVaultLaw_test_315 (k281 : Nat → Int32 → Int32 → Int32 → Int32 → Int32 → Nat → Nat → Int32 → zx_H → Option ((Nat ⊕ Nat) × zx_H)) (p0 : Nat) (p1 : Int32) (p2 : Int32) (p3 : Int32) (p4 : Int32) (p5 : Int32) (p6 : Nat) (p7 : Nat) (p8 : Int32) (p9 : Int64) (h : zx_H) : Option ((Nat ⊕ Nat) × zx_H) :=
  if ¬ p9 = (-9000000000 : Int64) then
    zf_b (zf_stB p7 p8 (0 : Int32) h) fun h1 =>
    k281 p0 p1 p2 p3 p4 p5 p6 p7 (p8 + (1 : Int32)) h1
  else
    if ¬ p4 = (5 : Int32) then
      zf_b (zf_stB p7 p8 (0 : Int32) h) fun h2 =>
      k281 p0 p1 p2 p3 p4 p5 p6 p7 (p8 + (1 : Int32)) h2
    else
      zf_b (zf_stB p7 p8 (1 : Int32) h) fun h3 =>
      k281 p0 p1 p2 p3 p4 p5 p6 p7 (p8 + (1 : Int32)) h3
set_option maxHeartbeats 4000000 in
set_option maxRecDepth 400000 in
theorem t_f_ColumnVaultLaw_test_315 {sc : (Nat × (Nat → Int32)) × Bool} {d : Nat} {k281 : Nat → Int32 → Int32 → Int32 → Int32 → Int32 → Nat → Nat → Int32 → zx_H → Option ((Nat ⊕ Nat) × zx_H)} (hk281 : ∀ (a0 : Nat) (a1 : Int32) (a2 : Int32) (a3 : Int32) (a4 : Int32) (a5 : Int32) (a6 : Nat) (a7 : Nat) (a8 : Int32) (h : zx_H) (r : (Nat ⊕ Nat)) (h' : zx_H), k281 a0 a1 a2 a3 a4 a5 a6 a7 a8 h = some (r, h') → zx_T sc (d + 8) 262 (281, [(1, .ref a0), (2, .int a1), (5, .int a2), (6, .int a3), (7, .int a4), (8, .int a5), (9, .ref a6), (10, .ref a7), (11, .int a8)], []) h (zf_oAx r) h') (p0 : Nat) (p1 : Int32) (p2 : Int32) (p3 : Int32) (p4 : Int32) (p5 : Int32) (p6 : Nat) (p7 : Nat) (p8 : Int32) (p9 : Int64) (h : zx_H) (r : (Nat ⊕ Nat)) (h' : zx_H) (hf : f_ColumnVaultLaw_test_315 k281 p0 p1 p2 p3 p4 p5 p6 p7 p8 p9 h = some (r, h')) : zx_T sc (d + 8) 262 (315, [(1, .ref p0), (2, .int p1), (5, .int p2), (6, .int p3), (7, .int p4), (8, .int p5), (9, .ref p6), (10, .ref p7), (11, .int p8), (12, .long p9)], []) h (zf_oAx r) h' := by
  unfold f_ColumnVaultLaw_test_315 at hf
  refine zv_p (k := 3) (f' := (321, [(1, .ref p0), (2, .int p1), (5, .int p2), (6, .int p3), (7, .int p4), (8, .int p5), (9, .ref p6), (10, .ref p7), (11, .int p8), (12, .long p9)], [.long p9, .int p8, .ref p7])) zq_262 zo_262 (by with_unfolding_all rfl) ?_
  refine zv_lng zq_262 zo_262 rfl rfl ?_
  refine zv_p (k := 1) (f' := (325, [(1, .ref p0), (2, .int p1), (5, .int p2), (6, .int p3), (7, .int p4), (8, .int p5), (9, .ref p6), (10, .ref p7), (11, .int p8), (12, .long p9)], [.int (lg_cmp p9 (-9000000000 : Int64)), .int p8, .ref p7])) zq_262 zo_262 (by with_unfolding_all rfl) ?_
  replace hf := zf_ite hf
  obtain ⟨hc, hf⟩ | ⟨hc, hf⟩ := hf
  · refine zv_brT (off := 13) (tt := 338) (r := [.int p8, .ref p7]) zq_262 zo_262 (zl_ne.mpr hc) rfl rfl rfl ?_
    refine zv_p (k := 1) (f' := (339, [(1, .ref p0), (2, .int p1), (5, .int p2), (6, .int p3), (7, .int p4), (8, .int p5), (9, .ref p6), (10, .ref p7), (11, .int p8), (12, .long p9)], [.int (0 : Int32), .int p8, .ref p7])) zq_262 zo_262 (by with_unfolding_all rfl) ?_
    replace hf := zf_be hf
    obtain ⟨h1, hv, hf⟩ := hf
    refine zv_stB zq_262 zo_262 rfl hv ?_
    refine zv_p (k := 3) (f' := (281, [(11, .int (p8 + (1 : Int32))), (1, .ref p0), (2, .int p1), (5, .int p2), (6, .int p3), (7, .int p4), (8, .int p5), (9, .ref p6), (10, .ref p7), (12, .long p9)], [])) zq_262 zo_262 (by with_unfolding_all rfl) ?_
    refine zv_pick (lv' := [(1, .ref p0), (2, .int p1), (5, .int p2), (6, .int p3), (7, .int p4), (8, .int p5), (9, .ref p6), (10, .ref p7), (11, .int (p8 + (1 : Int32)))]) [1, 2, 5, 6, 7, 8, 9, 10, 11] rfl rfl ?_
    exact hk281 _ _ _ _ _ _ _ _ _ _ _ _ hf
  · refine zv_brF (off := 13) (tt := 338) (r := [.int p8, .ref p7]) zq_262 zo_262 (mt zl_ne.mp hc) rfl rfl rfl ?_
    refine zv_p (k := 2) (f' := (331, [(1, .ref p0), (2, .int p1), (5, .int p2), (6, .int p3), (7, .int p4), (8, .int p5), (9, .ref p6), (10, .ref p7), (11, .int p8), (12, .long p9)], [.int (5 : Int32), .int p4, .int p8, .ref p7])) zq_262 zo_262 (by with_unfolding_all rfl) ?_
    replace hf := zf_ite hf
    obtain ⟨hc, hf⟩ | ⟨hc, hf⟩ := hf
    · refine zv_brT (off := 7) (tt := 338) (r := [.int p8, .ref p7]) zq_262 zo_262 hc rfl rfl rfl ?_
      refine zv_p (k := 1) (f' := (339, [(1, .ref p0), (2, .int p1), (5, .int p2), (6, .int p3), (7, .int p4), (8, .int p5), (9, .ref p6), (10, .ref p7), (11, .int p8), (12, .long p9)], [.int (0 : Int32), .int p8, .ref p7])) zq_262 zo_262 (by with_unfolding_all rfl) ?_
      replace hf := zf_be hf
      obtain ⟨h2, hv, hf⟩ := hf
      refine zv_stB zq_262 zo_262 rfl hv ?_
      refine zv_p (k := 3) (f' := (281, [(11, .int (p8 + (1 : Int32))), (1, .ref p0), (2, .int p1), (5, .int p2), (6, .int p3), (7, .int p4), (8, .int p5), (9, .ref p6), (10, .ref p7), (12, .long p9)], [])) zq_262 zo_262 (by with_unfolding_all rfl) ?_
      refine zv_pick (lv' := [(1, .ref p0), (2, .int p1), (5, .int p2), (6, .int p3), (7, .int p4), (8, .int p5), (9, .ref p6), (10, .ref p7), (11, .int (p8 + (1 : Int32)))]) [1, 2, 5, 6, 7, 8, 9, 10, 11] rfl rfl ?_
      exact hk281 _ _ _ _ _ _ _ _ _ _ _ _ hf
    · refine zv_brF (off := 7) (tt := 338) (r := [.int p8, .ref p7]) zq_262 zo_262 hc rfl rfl rfl ?_
      refine zv_p (k := 2) (f' := (339, [(1, .ref p0), (2, .int p1), (5, .int p2), (6, .int p3), (7, .int p4), (8, .int p5), (9, .ref p6), (10, .ref p7), (11, .int p8), (12, .long p9)], [.int (1 : Int32), .int p8, .ref p7])) zq_262 zo_262 (by with_unfolding_all rfl) ?_
      replace hf := zf_be hf
      obtain ⟨h3, hv, hf⟩ := hf
      refine zv_stB zq_262 zo_262 rfl hv ?_
      refine zv_p (k := 3) (f' := (281, [(11, .int (p8 + (1 : Int32))), (1, .ref p0), (2, .int p1), (5, .int p2), (6, .int p3), (7, .int p4), (8, .int p5), (9, .ref p6), (10, .ref p7), (12, .long p9)], [])) zq_262 zo_262 (by with_unfolding_all rfl) ?_
      refine zv_pick (lv' := [(1, .ref p0), (2, .int p1), (5, .int p2), (6, .int p3), (7, .int p4), (8, .int p5), (9, .ref p6), (10, .ref p7), (11, .int (p8 + (1 : Int32)))]) [1, 2, 5, 6, 7, 8, 9, 10, 11] rfl rfl ?_
      exact hk281 _ _ _ _ _ _ _ _ _ _ _ _ hf
set_option maxHeartbeats 1000000 in
def f_ColumnVaultLaw_test_450 (k281 : Nat → Int32 → Int32 → Int32 → Int32 → Int32 → Nat → Nat → Int32 → zx_H → Option ((Nat ⊕ Nat) × zx_H)) : Nat → Nat → Int32 → Int32 → Int32 → Int32 → Int32 → Nat → Nat → Int32 → Int64 → Int32 → zx_H → Option ((Nat ⊕ Nat) × zx_H)
  | 0, _, _, _, _, _, _, _, _, _, _, _, _ => none
  | n + 1, p0, p1, p2, p3, p4, p5, p6, p7, p8, p9, p10, h =>
    if p5 ≤ p10 then
      k281 p0 p1 p2 p3 p4 p5 p6 p7 (p8 + (1 : Int32)) h
    else
      if ¬ p4 = (4 : Int32) then
        k281 p0 p1 p2 p3 p4 p5 p6 p7 (p8 + (1 : Int32)) h
      else
        zf_b (zf_ldB p7 p8 h) fun v1 =>
        zf_b (zf_ldJ p6 p10 h) fun v2 =>
        if ¬ p9 = v2 then
          zf_b (zf_stB p7 p8 (v1 ||| (0 : Int32)) h) fun h3 =>
          (f_ColumnVaultLaw_test_450 k281 n) p0 p1 p2 p3 p4 p5 p6 p7 p8 p9 (p10 + (1 : Int32)) h3
        else
          zf_b (zf_stB p7 p8 (v1 ||| (1 : Int32)) h) fun h4 =>
          (f_ColumnVaultLaw_test_450 k281 n) p0 p1 p2 p3 p4 p5 p6 p7 p8 p9 (p10 + (1 : Int32)) h4
set_option maxHeartbeats 4000000 in
set_option maxRecDepth 400000 in
theorem t_f_ColumnVaultLaw_test_450 {sc : (Nat × (Nat → Int32)) × Bool} {d : Nat} {k281 : Nat → Int32 → Int32 → Int32 → Int32 → Int32 → Nat → Nat → Int32 → zx_H → Option ((Nat ⊕ Nat) × zx_H)} (hk281 : ∀ (a0 : Nat) (a1 : Int32) (a2 : Int32) (a3 : Int32) (a4 : Int32) (a5 : Int32) (a6 : Nat) (a7 : Nat) (a8 : Int32) (h : zx_H) (r : (Nat ⊕ Nat)) (h' : zx_H), k281 a0 a1 a2 a3 a4 a5 a6 a7 a8 h = some (r, h') → zx_T sc (d + 8) 262 (281, [(1, .ref a0), (2, .int a1), (5, .int a2), (6, .int a3), (7, .int a4), (8, .int a5), (9, .ref a6), (10, .ref a7), (11, .int a8)], []) h (zf_oAx r) h') : ∀ (n : Nat) (p0 : Nat) (p1 : Int32) (p2 : Int32) (p3 : Int32) (p4 : Int32) (p5 : Int32) (p6 : Nat) (p7 : Nat) (p8 : Int32) (p9 : Int64) (p10 : Int32) (h : zx_H) (r : (Nat ⊕ Nat)) (h' : zx_H), f_ColumnVaultLaw_test_450 k281 n p0 p1 p2 p3 p4 p5 p6 p7 p8 p9 p10 h = some (r, h') → zx_T sc (d + 8) 262 (450, [(1, .ref p0), (2, .int p1), (5, .int p2), (6, .int p3), (7, .int p4), (8, .int p5), (9, .ref p6), (10, .ref p7), (11, .int p8), (12, .long p9), (15, .int p10)], []) h (zf_oAx r) h' := by
  intro n
  induction n with
  | zero => intro p0 p1 p2 p3 p4 p5 p6 p7 p8 p9 p10 h r h' hf; cases hf
  | succ n ih =>
    intro p0 p1 p2 p3 p4 p5 p6 p7 p8 p9 p10 h r h' hf
    unfold f_ColumnVaultLaw_test_450 at hf
    refine zv_p (k := 2) (f' := (454, [(1, .ref p0), (2, .int p1), (5, .int p2), (6, .int p3), (7, .int p4), (8, .int p5), (9, .ref p6), (10, .ref p7), (11, .int p8), (12, .long p9), (15, .int p10)], [.int p5, .int p10])) zq_262 zo_262 (by with_unfolding_all rfl) ?_
    replace hf := zf_ite hf
    obtain ⟨hc, hf⟩ | ⟨hc, hf⟩ := hf
    · refine zv_brT (off := 39) (tt := 493) (r := []) zq_262 zo_262 hc rfl rfl rfl ?_
      refine zv_p (k := 2) (f' := (281, [(11, .int (p8 + (1 : Int32))), (1, .ref p0), (2, .int p1), (5, .int p2), (6, .int p3), (7, .int p4), (8, .int p5), (9, .ref p6), (10, .ref p7), (12, .long p9), (15, .int p10)], [])) zq_262 zo_262 (by with_unfolding_all rfl) ?_
      refine zv_pick (lv' := [(1, .ref p0), (2, .int p1), (5, .int p2), (6, .int p3), (7, .int p4), (8, .int p5), (9, .ref p6), (10, .ref p7), (11, .int (p8 + (1 : Int32)))]) [1, 2, 5, 6, 7, 8, 9, 10, 11] rfl rfl ?_
      exact hk281 _ _ _ _ _ _ _ _ _ _ _ _ hf
    · refine zv_brF (off := 39) (tt := 493) (r := []) zq_262 zo_262 hc rfl rfl rfl ?_
      refine zv_p (k := 2) (f' := (460, [(1, .ref p0), (2, .int p1), (5, .int p2), (6, .int p3), (7, .int p4), (8, .int p5), (9, .ref p6), (10, .ref p7), (11, .int p8), (12, .long p9), (15, .int p10)], [.int (4 : Int32), .int p4])) zq_262 zo_262 (by with_unfolding_all rfl) ?_
      replace hf := zf_ite hf
      obtain ⟨hc, hf⟩ | ⟨hc, hf⟩ := hf
      · refine zv_brT (off := 33) (tt := 493) (r := []) zq_262 zo_262 hc rfl rfl rfl ?_
        refine zv_p (k := 2) (f' := (281, [(11, .int (p8 + (1 : Int32))), (1, .ref p0), (2, .int p1), (5, .int p2), (6, .int p3), (7, .int p4), (8, .int p5), (9, .ref p6), (10, .ref p7), (12, .long p9), (15, .int p10)], [])) zq_262 zo_262 (by with_unfolding_all rfl) ?_
        refine zv_pick (lv' := [(1, .ref p0), (2, .int p1), (5, .int p2), (6, .int p3), (7, .int p4), (8, .int p5), (9, .ref p6), (10, .ref p7), (11, .int (p8 + (1 : Int32)))]) [1, 2, 5, 6, 7, 8, 9, 10, 11] rfl rfl ?_
        exact hk281 _ _ _ _ _ _ _ _ _ _ _ _ hf
      · refine zv_brF (off := 33) (tt := 493) (r := []) zq_262 zo_262 hc rfl rfl rfl ?_
        refine zv_p (k := 3) (f' := (468, [(1, .ref p0), (2, .int p1), (5, .int p2), (6, .int p3), (7, .int p4), (8, .int p5), (9, .ref p6), (10, .ref p7), (11, .int p8), (12, .long p9), (15, .int p10)], [.int p8, .ref p7, .int p8, .ref p7])) zq_262 zo_262 (by with_unfolding_all rfl) ?_
        replace hf := zf_be hf
        obtain ⟨v1, hv, hf⟩ := hf
        refine zv_ldB zq_262 zo_262 rfl hv ?_
        refine zv_p (k := 3) (f' := (475, [(1, .ref p0), (2, .int p1), (5, .int p2), (6, .int p3), (7, .int p4), (8, .int p5), (9, .ref p6), (10, .ref p7), (11, .int p8), (12, .long p9), (15, .int p10)], [.int p10, .ref p6, .long p9, .int v1, .int p8, .ref p7])) zq_262 zo_262 (by with_unfolding_all rfl) ?_
        replace hf := zf_be hf
        obtain ⟨v2, hv, hf⟩ := hf
        refine zv_ldJ zq_262 zo_262 rfl hv ?_
        refine zv_p (k := 1) (f' := (477, [(1, .ref p0), (2, .int p1), (5, .int p2), (6, .int p3), (7, .int p4), (8, .int p5), (9, .ref p6), (10, .ref p7), (11, .int p8), (12, .long p9), (15, .int p10)], [.int (lg_cmp p9 v2), .int v1, .int p8, .ref p7])) zq_262 zo_262 (by with_unfolding_all rfl) ?_
        replace hf := zf_ite hf
        obtain ⟨hc, hf⟩ | ⟨hc, hf⟩ := hf
        · refine zv_brT (off := 7) (tt := 484) (r := [.int v1, .int p8, .ref p7]) zq_262 zo_262 (zl_ne.mpr hc) rfl rfl rfl ?_
          refine zv_p (k := 2) (f' := (486, [(1, .ref p0), (2, .int p1), (5, .int p2), (6, .int p3), (7, .int p4), (8, .int p5), (9, .ref p6), (10, .ref p7), (11, .int p8), (12, .long p9), (15, .int p10)], [.int (v1 ||| (0 : Int32)), .int p8, .ref p7])) zq_262 zo_262 (by with_unfolding_all rfl) ?_
          replace hf := zf_be hf
          obtain ⟨h3, hv, hf⟩ := hf
          refine zv_stB zq_262 zo_262 rfl hv ?_
          refine zv_p (k := 2) (f' := (450, [(15, .int (p10 + (1 : Int32))), (1, .ref p0), (2, .int p1), (5, .int p2), (6, .int p3), (7, .int p4), (8, .int p5), (9, .ref p6), (10, .ref p7), (11, .int p8), (12, .long p9)], [])) zq_262 zo_262 (by with_unfolding_all rfl) ?_
          refine zv_pick (lv' := [(1, .ref p0), (2, .int p1), (5, .int p2), (6, .int p3), (7, .int p4), (8, .int p5), (9, .ref p6), (10, .ref p7), (11, .int p8), (12, .long p9), (15, .int (p10 + (1 : Int32)))]) [1, 2, 5, 6, 7, 8, 9, 10, 11, 12, 15] rfl rfl ?_
          exact ih _ _ _ _ _ _ _ _ _ _ _ _ _ _ hf
        · refine zv_brF (off := 7) (tt := 484) (r := [.int v1, .int p8, .ref p7]) zq_262 zo_262 (mt zl_ne.mp hc) rfl rfl rfl ?_
          refine zv_p (k := 3) (f' := (486, [(1, .ref p0), (2, .int p1), (5, .int p2), (6, .int p3), (7, .int p4), (8, .int p5), (9, .ref p6), (10, .ref p7), (11, .int p8), (12, .long p9), (15, .int p10)], [.int (v1 ||| (1 : Int32)), .int p8, .ref p7])) zq_262 zo_262 (by with_unfolding_all rfl) ?_
          replace hf := zf_be hf
          obtain ⟨h4, hv, hf⟩ := hf
          refine zv_stB zq_262 zo_262 rfl hv ?_
          refine zv_p (k := 2) (f' := (450, [(15, .int (p10 + (1 : Int32))), (1, .ref p0), (2, .int p1), (5, .int p2), (6, .int p3), (7, .int p4), (8, .int p5), (9, .ref p6), (10, .ref p7), (11, .int p8), (12, .long p9)], [])) zq_262 zo_262 (by with_unfolding_all rfl) ?_
          refine zv_pick (lv' := [(1, .ref p0), (2, .int p1), (5, .int p2), (6, .int p3), (7, .int p4), (8, .int p5), (9, .ref p6), (10, .ref p7), (11, .int p8), (12, .long p9), (15, .int (p10 + (1 : Int32)))]) [1, 2, 5, 6, 7, 8, 9, 10, 11, 12, 15] rfl rfl ?_
          exact ih _ _ _ _ _ _ _ _ _ _ _ _ _ _ hf
