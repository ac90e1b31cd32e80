/-! ColumnVaultLaw.law (arr I)Z -/
noncomputable def zI_0 : zd_T := [[(0, .aload_n 0, 1), (1, .invokestatic 396, 3), (4, .astore_n 1, 1), (5, .new 1, 3), (8, .dup, 1), (9, .invokespecial 400, 3), (12, .astore_n 2, 1), (13, .aload_n 2, 1), (14, .invokevirtual 198, 3), (17, .ifCond .ne 35, 3), (20, .aload_n 2, 1), (21, .bipush 10, 2), (23, .iconst 0, 1), (24, .iconst 0, 1), (25, .lconst 0, 1), (26, .invokestatic 278, 3), (29, .ldc2_w 152, 3)], [(32, .lcmp, 1), (33, .ifCond .ne 19, 3), (36, .aload_n 2, 1), (37, .bipush 11, 2), (39, .iconst 0, 1), (40, .iconst 0, 1), (41, .lconst 0, 1), (42, .invokestatic 278, 3), (45, .ldc2_w 152, 3), (48, .lcmp, 1), (49, .ifCond .eq 5, 3), (52, .iconst 0, 1), (53, .ireturn, 1), (54, .aload_n 2, 1), (55, .aload_n 1, 1), (56, .iconst 0, 1), (57, .iconst 1, 1), (58, .aload_n 1, 1), (59, .iconst 4, 1), (60, .invokestatic 16, 3), (63, .iadd, 1)], [(64, .invokestatic 401, 3), (67, .aload_n 2, 1), (68, .aload_n 1, 1), (69, .iconst 1, 1), (70, .iconst 1, 1), (71, .aload_n 1, 1), (72, .iconst 3, 1), (73, .invokestatic 16, 3), (76, .iadd, 1), (77, .invokestatic 401, 3), (80, .aload_n 2, 1), (81, .aload_n 1, 1), (82, .iconst 2, 1), (83, .iconst 1, 1), (84, .aload_n 1, 1), (85, .iconst 2, 1), (86, .invokestatic 16, 3), (89, .iadd, 1), (90, .invokestatic 401, 3), (93, .aload_n 1, 1), (94, .iconst 3, 1), (95, .invokestatic 16, 3)], [(98, .istore_n 3, 1), (99, .aload_n 2, 1), (100, .aload_n 1, 1), (101, .iload_n 3, 1), (102, .invokestatic 405, 3), (105, .ifCond .eq 39, 3), (108, .aload_n 2, 1), (109, .aload_n 1, 1), (110, .iload_n 3, 1), (111, .invokestatic 409, 3), (114, .ifCond .eq 30, 3), (117, .aload_n 2, 1), (118, .aload_n 1, 1), (119, .iload_n 3, 1), (120, .invokestatic 412, 3), (123, .ifCond .eq 21, 3), (126, .aload_n 2, 1), (127, .aload_n 1, 1)], [(128, .iload_n 3, 1), (129, .invokestatic 415, 3), (132, .ifCond .eq 12, 3), (135, .aload_n 2, 1), (136, .aload_n 1, 1), (137, .iload_n 3, 1), (138, .invokestatic 412, 3), (141, .ifCond .ne 5, 3), (144, .iconst 0, 1), (145, .ireturn, 1), (146, .aload_n 2, 1), (147, .aload_n 1, 1), (148, .aload_n 1, 1), (149, .iconst 3, 1), (150, .invokestatic 16, 3), (153, .aload_n 1, 1), (154, .iconst 3, 1), (155, .invokestatic 16, 3), (158, .invokestatic 418, 3)], [(161, .ifCond .eq 56, 3), (164, .aload_n 2, 1), (165, .aload_n 1, 1), (166, .iconst 0, 1), (167, .iconst 0, 1), (168, .invokestatic 418, 3), (171, .ifCond .eq 46, 3), (174, .aload_n 2, 1), (175, .aload_n 1, 1), (176, .iload_n 3, 1), (177, .invokestatic 422, 3), (180, .ifCond .eq 37, 3), (183, .aload_n 2, 1), (184, .aload_n 1, 1), (185, .iconst 3, 1), (186, .invokestatic 16, 3), (189, .aload_n 1, 1), (190, .iconst 3, 1), (191, .invokestatic 16, 3)], [(194, .invokestatic 425, 3), (197, .ifCond .eq 20, 3), (200, .aload_n 2, 1), (201, .iload_n 3, 1), (202, .invokestatic 429, 3), (205, .ifCond .eq 12, 3), (208, .aload_n 2, 1), (209, .aload_n 1, 1), (210, .iload_n 3, 1), (211, .invokestatic 433, 3), (214, .ifCond .ne 5, 3), (217, .iconst 0, 1), (218, .ireturn, 1), (219, .aload_n 2, 1), (220, .aload_n 1, 1), (221, .invokestatic 436, 3)], [(224, .ifCond .eq 11, 3), (227, .aload_n 2, 1), (228, .aload_n 1, 1), (229, .invokestatic 440, 3), (232, .ifCond .ne 5, 3), (235, .iconst 0, 1), (236, .ireturn, 1), (237, .aload_n 2, 1), (238, .iconst 0, 1), (239, .iconst 0, 1), (240, .invokevirtual 147, 3), (243, .ifCond .eq 27, 3), (246, .aload_n 2, 1), (247, .iconst 0, 1), (248, .invokevirtual 443, 3), (251, .aload_n 2, 1), (252, .iconst 0, 1), (253, .iconst 2, 1), (254, .invokevirtual 147, 3)], [(257, .i2f, 1), (258, .aload_n 2, 1), (259, .iconst 0, 1), (260, .iconst 0, 1), (261, .invokevirtual 147, 3), (264, .i2f, 1), (265, .fdiv, 1), (266, .fcmp .l, 1), (267, .ifCond .ne 7, 3), (270, .iconst 1, 1), (271, .goto 4, 3), (274, .iconst 0, 1), (275, .ireturn, 1)]]
theorem zo_0 : zd_of 0 = some zI_0 := rfl
set_option maxRecDepth 100000 in
theorem zq_0 : zt_m[0]? = some (⟨"ColumnVaultLaw", "law", "([I)Z"⟩, code, 4, some (.boolean), [], 17, 1, 0, 0, 99999, 0) := rfl
set_option maxHeartbeats 1000000 in
def f_ColumnVaultLaw_law (sc : (Nat × (Nat → Int32)) × Bool)  (h : zx_H) : Option ((Int32 ⊕ Nat) × zx_H) :=
  zf_b2 (f_ColumnVaultLaw_seed sc h) fun v1 h2 =>
  zf_b2 (zf_new 12 h2) fun q3 h4 =>
  zf_b2 (f_ColumnVault_init q3 h4) fun _ h6 =>
  zf_b (zf_is 12 q3 h6) fun _ =>
  zf_b2 (f_ColumnVault_version q3 h6) fun v7 h8 =>
  if ¬ v7 = 0 then
    some (.inl (0 : Int32), h8)
  else
    zf_b2 (f_ColumnVaultLaw_asks q3 (10 : Int32) (0 : Int32) (0 : Int32) (0 : Int64) h8) fun v9 h10 =>
    if ¬ v9 = (-3000000001 : Int64) then
      some (.inl (0 : Int32), h10)
    else
      zf_b2 (f_ColumnVaultLaw_asks q3 (11 : Int32) (0 : Int32) (0 : Int32) (0 : Int64) h10) fun v11 h12 =>
      if v11 = (-3000000001 : Int64) then
        zf_b2 (f_ColumnVaultLaw_draw v1 (4 : Int32) h12) fun v13 h14 =>
        zf_b3 (f_ColumnVaultLaw_draws q3 v1 (0 : Int32) ((1 : Int32) + v13) h14) fun _ h16 =>
        zf_b2 (f_ColumnVaultLaw_draw v1 (3 : Int32) h16) fun v18 h19 =>
        zf_b3 (f_ColumnVaultLaw_draws q3 v1 (1 : Int32) ((1 : Int32) + v18) h19) fun _ h21 =>
        zf_b2 (f_ColumnVaultLaw_draw v1 (2 : Int32) h21) fun v23 h24 =>
        zf_b3 (f_ColumnVaultLaw_draws q3 v1 (2 : Int32) ((1 : Int32) + v23) h24) fun _ h26 =>
        zf_b2 (f_ColumnVaultLaw_draw v1 (3 : Int32) h26) fun v28 h29 =>
        zf_b3 (f_ColumnVaultLaw_isRemoved q3 v1 v28 h29) fun v30 h31 =>
        if v30 = 0 then
          some (.inl (0 : Int32), h31)
        else
          zf_b3 (f_ColumnVaultLaw_isSorted q3 v1 v28 h31) fun v33 h34 =>
          if v33 = 0 then
            some (.inl (0 : Int32), h34)
          else
            zf_b3 (f_ColumnVaultLaw_isFilter q3 v1 v28 h34) fun v36 h37 =>
            if v36 = 0 then
              some (.inl (0 : Int32), h37)
            else
              zf_b3 (f_ColumnVaultLaw_isWrong q3 v1 v28 h37) fun v39 h40 =>
              if v39 = 0 then
                some (.inl (0 : Int32), h40)
              else
                zf_b3 (f_ColumnVaultLaw_isFilter q3 v1 v28 h40) fun v42 h43 =>
                if ¬ v42 = 0 then
                  zf_b2 (f_ColumnVaultLaw_draw v1 (3 : Int32) h43) fun v45 h46 =>
                  zf_b2 (f_ColumnVaultLaw_draw v1 (3 : Int32) h46) fun v47 h48 =>
                  zf_b3 (f_ColumnVaultLaw_isJoined q3 v1 v45 v47 h48) fun v49 h50 =>
                  if v49 = 0 then
                    some (.inl (0 : Int32), h50)
                  else
                    zf_b3 (f_ColumnVaultLaw_isJoined q3 v1 (0 : Int32) (0 : Int32) h50) fun v52 h53 =>
                    if v52 = 0 then
                      some (.inl (0 : Int32), h53)
                    else
                      zf_b3 (f_ColumnVaultLaw_isTold q3 v1 v28 h53) fun v55 h56 =>
                      if v55 = 0 then
                        some (.inl (0 : Int32), h56)
                      else
                        zf_b2 (f_ColumnVaultLaw_draw v1 (3 : Int32) h56) fun v58 h59 =>
                        zf_b2 (f_ColumnVaultLaw_draw v1 (3 : Int32) h59) fun v60 h61 =>
                        zf_b3 (f_ColumnVaultLaw_areSets q3 v58 v60 h61) fun v62 h63 =>
                        if v62 = 0 then
                          some (.inl (0 : Int32), h63)
                        else
                          zf_b3 (f_ColumnVaultLaw_areAlike q3 v28 h63) fun v65 h66 =>
                          if v65 = 0 then
                            some (.inl (0 : Int32), h66)
                          else
                            zf_b3 (f_ColumnVaultLaw_isGrouped q3 v1 v28 h66) fun v68 h69 =>
                            if ¬ v68 = 0 then
                              zf_b3 (f_ColumnVaultLaw_isBack q3 v1 h69) fun v71 h72 =>
                              if v71 = 0 then
                                some (.inl (0 : Int32), h72)
                              else
                                zf_b3 (f_ColumnVaultLaw_areRefused q3 v1 h72) fun v74 h75 =>
                                if ¬ v74 = 0 then
                                  zf_b (zf_is 12 q3 h75) fun _ =>
                                  zf_b3 (f_ColumnVault_size q3 (0 : Int32) (0 : Int32) h75) fun v77 h78 =>
                                  if v77 = 0 then
                                    some (.inl (1 : Int32), h78)
                                  else
                                    zf_b (zf_is 12 q3 h78) fun _ =>
                                    zf_b3 (f_ColumnVault_chosenShare q3 (0 : Int32) h78) fun v80 h81 =>
                                    zf_b (zf_is 12 q3 h81) fun _ =>
                                    zf_b3 (f_ColumnVault_size q3 (0 : Int32) (2 : Int32) h81) fun v83 h84 =>
                                    zf_b (zf_is 12 q3 h84) fun _ =>
                                    zf_b3 (f_ColumnVault_size q3 (0 : Int32) (0 : Int32) h84) fun v86 h87 =>
                                    if (FP.fdiv (FP.i2f v83) (FP.i2f v86)) &&& 0x7fffffff ≤ 0x7f800000 then
                                    if ¬ (Op.cmpValue (FP.fcmp v80 (FP.fdiv (FP.i2f v83) (FP.i2f v86))) .l) = 0 then
                                      some (.inl (0 : Int32), h87)
                                    else
                                      some (.inl (1 : Int32), h87)
                                    else none
                                else
                                  some (.inl (0 : Int32), h75)
                            else
                              some (.inl (0 : Int32), h69)
                else
                  some (.inl (0 : Int32), h43)
      else
        some (.inl (0 : Int32), h12)
set_option maxHeartbeats 4000000 in
set_option maxRecDepth 400000 in
theorem t_f_ColumnVaultLaw_law {sc : (Nat × (Nat → Int32)) × Bool} {d : Nat}  (h : zx_H) (r : (Int32 ⊕ Nat)) (h' : zx_H) (hf : f_ColumnVaultLaw_law sc  h = some (r, h')) : zx_T sc (d + 188) 0 (0, [(0, .ref zx_lim)], []) h (zf_oIx r) h' := by
  unfold f_ColumnVaultLaw_law at hf
  refine zv_p (k := 1) (f' := (1, [(0, .ref zx_lim)], [.ref zx_lim])) zq_0 zo_0 (by with_unfolding_all rfl) ?_
  replace hf := zf_b2e hf
  obtain ⟨v1, h2, hv, hf⟩ := hf
  refine zv_c zq_0 zo_0 rfl rfl rfl rfl rfl rfl (t_f_ColumnVaultLaw_seed _ _ _ hv) ?_
  refine zv_p (k := 1) (f' := (5, [(1, .ref v1), (0, .ref zx_lim)], [])) zq_0 zo_0 (by with_unfolding_all rfl) ?_
  replace hf := zf_b2e hf
  obtain ⟨q3, h4, hv, hf⟩ := hf
  refine zv_new zq_0 zo_0 rfl rfl rfl hv ?_
  refine zv_p (k := 1) (f' := (9, [(1, .ref v1), (0, .ref zx_lim)], [.ref q3, .ref q3])) zq_0 zo_0 (by with_unfolding_all rfl) ?_
  replace hf := zf_b2e hf
  obtain ⟨v5, h6, hv, hf⟩ := hf
  refine zv_c zq_0 zo_0 rfl rfl rfl rfl rfl rfl (t_f_ColumnVault_init _ _ _ _ hv) ?_
  refine zv_p (k := 2) (f' := (14, [(2, .ref q3), (1, .ref v1), (0, .ref zx_lim)], [.ref q3])) zq_0 zo_0 (by with_unfolding_all rfl) ?_
  replace hf := zf_be hf
  obtain ⟨_, ho, hf⟩ := hf
  replace hf := zf_b2e hf
  obtain ⟨v7, h8, hv, hf⟩ := hf
  refine zv_c zq_0 zo_0 rfl rfl rfl rfl rfl (zv_cv rfl rfl rfl (zf_ise ho) rfl) (t_f_ColumnVault_version _ _ _ _ hv) ?_
  replace hf := zf_ite hf
  obtain ⟨hc, hf⟩ | ⟨hc, hf⟩ := hf
  · refine zv_brT (off := 35) (tt := 52) (r := []) zq_0 zo_0 hc rfl rfl rfl ?_
    refine zv_p (k := 1) (f' := (53, [(2, .ref q3), (1, .ref v1), (0, .ref zx_lim)], [.int (0 : Int32)])) zq_0 zo_0 (by with_unfolding_all rfl) ?_
    cases hf
    exact zv_rn zq_0 zo_0 rfl rfl
  · refine zv_brF (off := 35) (tt := 52) (r := []) zq_0 zo_0 hc rfl rfl rfl ?_
    refine zv_p (k := 5) (f' := (26, [(2, .ref q3), (1, .ref v1), (0, .ref zx_lim)], [.long (0 : Int64), .int (0 : Int32), .int (0 : Int32), .int (10 : Int32), .ref q3])) zq_0 zo_0 (by with_unfolding_all rfl) ?_
    replace hf := zf_b2e hf
    obtain ⟨v9, h10, hv, hf⟩ := hf
    refine zv_c zq_0 zo_0 rfl rfl rfl rfl rfl rfl (t_f_ColumnVaultLaw_asks _ _ _ _ _ _ _ _ hv) ?_
    refine zv_lng zq_0 zo_0 rfl rfl ?_
    refine zv_p (k := 1) (f' := (33, [(2, .ref q3), (1, .ref v1), (0, .ref zx_lim)], [.int (lg_cmp v9 (-3000000001 : Int64))])) zq_0 zo_0 (by with_unfolding_all rfl) ?_
    replace hf := zf_ite hf
    obtain ⟨hc, hf⟩ | ⟨hc, hf⟩ := hf
    · refine zv_brT (off := 19) (tt := 52) (r := []) zq_0 zo_0 (zl_ne.mpr hc) rfl rfl rfl ?_
      refine zv_p (k := 1) (f' := (53, [(2, .ref q3), (1, .ref v1), (0, .ref zx_lim)], [.int (0 : Int32)])) zq_0 zo_0 (by with_unfolding_all rfl) ?_
      cases hf
      exact zv_rn zq_0 zo_0 rfl rfl
    · refine zv_brF (off := 19) (tt := 52) (r := []) zq_0 zo_0 (mt zl_ne.mp hc) rfl rfl rfl ?_
      refine zv_p (k := 5) (f' := (42, [(2, .ref q3), (1, .ref v1), (0, .ref zx_lim)], [.long (0 : Int64), .int (0 : Int32), .int (0 : Int32), .int (11 : Int32), .ref q3])) zq_0 zo_0 (by with_unfolding_all rfl) ?_
      replace hf := zf_b2e hf
      obtain ⟨v11, h12, hv, hf⟩ := hf
      refine zv_c zq_0 zo_0 rfl rfl rfl rfl rfl rfl (t_f_ColumnVaultLaw_asks _ _ _ _ _ _ _ _ hv) ?_
      refine zv_lng zq_0 zo_0 rfl rfl ?_
      refine zv_p (k := 1) (f' := (49, [(2, .ref q3), (1, .ref v1), (0, .ref zx_lim)], [.int (lg_cmp v11 (-3000000001 : Int64))])) zq_0 zo_0 (by with_unfolding_all rfl) ?_
      replace hf := zf_ite hf
      obtain ⟨hc, hf⟩ | ⟨hc, hf⟩ := hf
      · refine zv_brT (off := 5) (tt := 54) (r := []) zq_0 zo_0 (zl_eq.mpr hc) rfl rfl rfl ?_
        refine zv_p (k := 6) (f' := (60, [(2, .ref q3), (1, .ref v1), (0, .ref zx_lim)], [.int (4 : Int32), .ref v1, .int (1 : Int32), .int (0 : Int32), .ref v1, .ref q3])) zq_0 zo_0 (by with_unfolding_all rfl) ?_
        replace hf := zf_b2e hf
        obtain ⟨v13, h14, hv, hf⟩ := hf
        refine zv_c zq_0 zo_0 rfl rfl rfl rfl rfl rfl (t_f_ColumnVaultLaw_draw _ _ _ _ _ hv) ?_
        refine zv_p (k := 1) (f' := (64, [(2, .ref q3), (1, .ref v1), (0, .ref zx_lim)], [.int ((1 : Int32) + v13), .int (0 : Int32), .ref v1, .ref q3])) zq_0 zo_0 (by with_unfolding_all rfl) ?_
        replace hf := zf_b3e hf
        obtain ⟨v15, h16, hv, hf⟩ | ⟨E17, h16, hv, hf⟩ := hf
        rotate_left
        · cases hf; exact zv_cx zq_0 zo_0 rfl rfl rfl rfl rfl rfl (t_f_ColumnVaultLaw_draws _ _ _ _ _ _ _ hv) rfl
        refine zv_c zq_0 zo_0 rfl rfl rfl rfl rfl rfl (t_f_ColumnVaultLaw_draws _ _ _ _ _ _ _ hv) ?_
        refine zv_p (k := 6) (f' := (73, [(2, .ref q3), (1, .ref v1), (0, .ref zx_lim)], [.int (3 : Int32), .ref v1, .int (1 : Int32), .int (1 : Int32), .ref v1, .ref q3])) zq_0 zo_0 (by with_unfolding_all rfl) ?_
        replace hf := zf_b2e hf
        obtain ⟨v18, h19, hv, hf⟩ := hf
        refine zv_c zq_0 zo_0 rfl rfl rfl rfl rfl rfl (t_f_ColumnVaultLaw_draw _ _ _ _ _ hv) ?_
        refine zv_p (k := 1) (f' := (77, [(2, .ref q3), (1, .ref v1), (0, .ref zx_lim)], [.int ((1 : Int32) + v18), .int (1 : Int32), .ref v1, .ref q3])) zq_0 zo_0 (by with_unfolding_all rfl) ?_
        replace hf := zf_b3e hf
        obtain ⟨v20, h21, hv, hf⟩ | ⟨E22, h21, hv, hf⟩ := hf
        rotate_left
        · cases hf; exact zv_cx zq_0 zo_0 rfl rfl rfl rfl rfl rfl (t_f_ColumnVaultLaw_draws _ _ _ _ _ _ _ hv) rfl
        refine zv_c zq_0 zo_0 rfl rfl rfl rfl rfl rfl (t_f_ColumnVaultLaw_draws _ _ _ _ _ _ _ hv) ?_
        refine zv_p (k := 6) (f' := (86, [(2, .ref q3), (1, .ref v1), (0, .ref zx_lim)], [.int (2 : Int32), .ref v1, .int (1 : Int32), .int (2 : Int32), .ref v1, .ref q3])) zq_0 zo_0 (by with_unfolding_all rfl) ?_
        replace hf := zf_b2e hf
        obtain ⟨v23, h24, hv, hf⟩ := hf
        refine zv_c zq_0 zo_0 rfl rfl rfl rfl rfl rfl (t_f_ColumnVaultLaw_draw _ _ _ _ _ hv) ?_
        refine zv_p (k := 1) (f' := (90, [(2, .ref q3), (1, .ref v1), (0, .ref zx_lim)], [.int ((1 : Int32) + v23), .int (2 : Int32), .ref v1, .ref q3])) zq_0 zo_0 (by with_unfolding_all rfl) ?_
        replace hf := zf_b3e hf
        obtain ⟨v25, h26, hv, hf⟩ | ⟨E27, h26, hv, hf⟩ := hf
        rotate_left
        · cases hf; exact zv_cx zq_0 zo_0 rfl rfl rfl rfl rfl rfl (t_f_ColumnVaultLaw_draws _ _ _ _ _ _ _ hv) rfl
        refine zv_c zq_0 zo_0 rfl rfl rfl rfl rfl rfl (t_f_ColumnVaultLaw_draws _ _ _ _ _ _ _ hv) ?_
        refine zv_p (k := 2) (f' := (95, [(2, .ref q3), (1, .ref v1), (0, .ref zx_lim)], [.int (3 : Int32), .ref v1])) zq_0 zo_0 (by with_unfolding_all rfl) ?_
        replace hf := zf_b2e hf
        obtain ⟨v28, h29, hv, hf⟩ := hf
        refine zv_c zq_0 zo_0 rfl rfl rfl rfl rfl rfl (t_f_ColumnVaultLaw_draw _ _ _ _ _ hv) ?_
        refine zv_p (k := 4) (f' := (102, [(3, .int v28), (2, .ref q3), (1, .ref v1), (0, .ref zx_lim)], [.int v28, .ref v1, .ref q3])) zq_0 zo_0 (by with_unfolding_all rfl) ?_
        replace hf := zf_b3e hf
        obtain ⟨v30, h31, hv, hf⟩ | ⟨E32, h31, hv, hf⟩ := hf
        rotate_left
        · cases hf; exact zv_cx zq_0 zo_0 rfl rfl rfl rfl rfl rfl (t_f_ColumnVaultLaw_isRemoved _ _ _ _ _ _ hv) rfl
        refine zv_c zq_0 zo_0 rfl rfl rfl rfl rfl rfl (t_f_ColumnVaultLaw_isRemoved _ _ _ _ _ _ hv) ?_
        replace hf := zf_ite hf
        obtain ⟨hc, hf⟩ | ⟨hc, hf⟩ := hf
        · refine zv_brT (off := 39) (tt := 144) (r := []) zq_0 zo_0 hc rfl rfl rfl ?_
          refine zv_p (k := 1) (f' := (145, [(3, .int v28), (2, .ref q3), (1, .ref v1), (0, .ref zx_lim)], [.int (0 : Int32)])) zq_0 zo_0 (by with_unfolding_all rfl) ?_
          cases hf
          exact zv_rn zq_0 zo_0 rfl rfl
        · refine zv_brF (off := 39) (tt := 144) (r := []) zq_0 zo_0 hc rfl rfl rfl ?_
          refine zv_p (k := 3) (f' := (111, [(3, .int v28), (2, .ref q3), (1, .ref v1), (0, .ref zx_lim)], [.int v28, .ref v1, .ref q3])) zq_0 zo_0 (by with_unfolding_all rfl) ?_
          replace hf := zf_b3e hf
          obtain ⟨v33, h34, hv, hf⟩ | ⟨E35, h34, hv, hf⟩ := hf
          rotate_left
          · cases hf; exact zv_cx zq_0 zo_0 rfl rfl rfl rfl rfl rfl (t_f_ColumnVaultLaw_isSorted _ _ _ _ _ _ hv) rfl
          refine zv_c zq_0 zo_0 rfl rfl rfl rfl rfl rfl (t_f_ColumnVaultLaw_isSorted _ _ _ _ _ _ hv) ?_
          replace hf := zf_ite hf
          obtain ⟨hc, hf⟩ | ⟨hc, hf⟩ := hf
          · refine zv_brT (off := 30) (tt := 144) (r := []) zq_0 zo_0 hc rfl rfl rfl ?_
            refine zv_p (k := 1) (f' := (145, [(3, .int v28), (2, .ref q3), (1, .ref v1), (0, .ref zx_lim)], [.int (0 : Int32)])) zq_0 zo_0 (by with_unfolding_all rfl) ?_
            cases hf
            exact zv_rn zq_0 zo_0 rfl rfl
          · refine zv_brF (off := 30) (tt := 144) (r := []) zq_0 zo_0 hc rfl rfl rfl ?_
            refine zv_p (k := 3) (f' := (120, [(3, .int v28), (2, .ref q3), (1, .ref v1), (0, .ref zx_lim)], [.int v28, .ref v1, .ref q3])) zq_0 zo_0 (by with_unfolding_all rfl) ?_
            replace hf := zf_b3e hf
            obtain ⟨v36, h37, hv, hf⟩ | ⟨E38, h37, hv, hf⟩ := hf
            rotate_left
            · cases hf; exact zv_cx zq_0 zo_0 rfl rfl rfl rfl rfl rfl (t_f_ColumnVaultLaw_isFilter _ _ _ _ _ _ hv) rfl
            refine zv_c zq_0 zo_0 rfl rfl rfl rfl rfl rfl (t_f_ColumnVaultLaw_isFilter _ _ _ _ _ _ hv) ?_
            replace hf := zf_ite hf
            obtain ⟨hc, hf⟩ | ⟨hc, hf⟩ := hf
            · refine zv_brT (off := 21) (tt := 144) (r := []) zq_0 zo_0 hc rfl rfl rfl ?_
              refine zv_p (k := 1) (f' := (145, [(3, .int v28), (2, .ref q3), (1, .ref v1), (0, .ref zx_lim)], [.int (0 : Int32)])) zq_0 zo_0 (by with_unfolding_all rfl) ?_
              cases hf
              exact zv_rn zq_0 zo_0 rfl rfl
            · refine zv_brF (off := 21) (tt := 144) (r := []) zq_0 zo_0 hc rfl rfl rfl ?_
              refine zv_p (k := 3) (f' := (129, [(3, .int v28), (2, .ref q3), (1, .ref v1), (0, .ref zx_lim)], [.int v28, .ref v1, .ref q3])) zq_0 zo_0 (by with_unfolding_all rfl) ?_
              replace hf := zf_b3e hf
              obtain ⟨v39, h40, hv, hf⟩ | ⟨E41, h40, hv, hf⟩ := hf
              rotate_left
              · cases hf; exact zv_cx zq_0 zo_0 rfl rfl rfl rfl rfl rfl (t_f_ColumnVaultLaw_isWrong _ _ _ _ _ _ hv) rfl
              refine zv_c zq_0 zo_0 rfl rfl rfl rfl rfl rfl (t_f_ColumnVaultLaw_isWrong _ _ _ _ _ _ hv) ?_
              replace hf := zf_ite hf
              obtain ⟨hc, hf⟩ | ⟨hc, hf⟩ := hf
              · refine zv_brT (off := 12) (tt := 144) (r := []) zq_0 zo_0 hc rfl rfl rfl ?_
                refine zv_p (k := 1) (f' := (145, [(3, .int v28), (2, .ref q3), (1, .ref v1), (0, .ref zx_lim)], [.int (0 : Int32)])) zq_0 zo_0 (by with_unfolding_all rfl) ?_
                cases hf
                exact zv_rn zq_0 zo_0 rfl rfl
              · refine zv_brF (off := 12) (tt := 144) (r := []) zq_0 zo_0 hc rfl rfl rfl ?_
                refine zv_p (k := 3) (f' := (138, [(3, .int v28), (2, .ref q3), (1, .ref v1), (0, .ref zx_lim)], [.int v28, .ref v1, .ref q3])) zq_0 zo_0 (by with_unfolding_all rfl) ?_
                replace hf := zf_b3e hf
                obtain ⟨v42, h43, hv, hf⟩ | ⟨E44, h43, hv, hf⟩ := hf
                rotate_left
                · cases hf; exact zv_cx zq_0 zo_0 rfl rfl rfl rfl rfl rfl (t_f_ColumnVaultLaw_isFilter _ _ _ _ _ _ hv) rfl
                refine zv_c zq_0 zo_0 rfl rfl rfl rfl rfl rfl (t_f_ColumnVaultLaw_isFilter _ _ _ _ _ _ hv) ?_
                replace hf := zf_ite hf
                obtain ⟨hc, hf⟩ | ⟨hc, hf⟩ := hf
                · refine zv_brT (off := 5) (tt := 146) (r := []) zq_0 zo_0 hc rfl rfl rfl ?_
                  refine zv_p (k := 4) (f' := (150, [(3, .int v28), (2, .ref q3), (1, .ref v1), (0, .ref zx_lim)], [.int (3 : Int32), .ref v1, .ref v1, .ref q3])) zq_0 zo_0 (by with_unfolding_all rfl) ?_
                  replace hf := zf_b2e hf
                  obtain ⟨v45, h46, hv, hf⟩ := hf
                  refine zv_c zq_0 zo_0 rfl rfl rfl rfl rfl rfl (t_f_ColumnVaultLaw_draw _ _ _ _ _ hv) ?_
                  refine zv_p (k := 2) (f' := (155, [(3, .int v28), (2, .ref q3), (1, .ref v1), (0, .ref zx_lim)], [.int (3 : Int32), .ref v1, .int v45, .ref v1, .ref q3])) zq_0 zo_0 (by with_unfolding_all rfl) ?_
                  replace hf := zf_b2e hf
                  obtain ⟨v47, h48, hv, hf⟩ := hf
                  refine zv_c zq_0 zo_0 rfl rfl rfl rfl rfl rfl (t_f_ColumnVaultLaw_draw _ _ _ _ _ hv) ?_
                  replace hf := zf_b3e hf
                  obtain ⟨v49, h50, hv, hf⟩ | ⟨E51, h50, hv, hf⟩ := hf
                  rotate_left
                  · cases hf; exact zv_cx zq_0 zo_0 rfl rfl rfl rfl rfl rfl (t_f_ColumnVaultLaw_isJoined _ _ _ _ _ _ _ hv) rfl
                  refine zv_c zq_0 zo_0 rfl rfl rfl rfl rfl rfl (t_f_ColumnVaultLaw_isJoined _ _ _ _ _ _ _ hv) ?_
                  replace hf := zf_ite hf
                  obtain ⟨hc, hf⟩ | ⟨hc, hf⟩ := hf
                  · refine zv_brT (off := 56) (tt := 217) (r := []) zq_0 zo_0 hc rfl rfl rfl ?_
                    refine zv_p (k := 1) (f' := (218, [(3, .int v28), (2, .ref q3), (1, .ref v1), (0, .ref zx_lim)], [.int (0 : Int32)])) zq_0 zo_0 (by with_unfolding_all rfl) ?_
                    cases hf
                    exact zv_rn zq_0 zo_0 rfl rfl
                  · refine zv_brF (off := 56) (tt := 217) (r := []) zq_0 zo_0 hc rfl rfl rfl ?_
                    refine zv_p (k := 4) (f' := (168, [(3, .int v28), (2, .ref q3), (1, .ref v1), (0, .ref zx_lim)], [.int (0 : Int32), .int (0 : Int32), .ref v1, .ref q3])) zq_0 zo_0 (by with_unfolding_all rfl) ?_
                    replace hf := zf_b3e hf
                    obtain ⟨v52, h53, hv, hf⟩ | ⟨E54, h53, hv, hf⟩ := hf
                    rotate_left
                    · cases hf; exact zv_cx zq_0 zo_0 rfl rfl rfl rfl rfl rfl (t_f_ColumnVaultLaw_isJoined _ _ _ _ _ _ _ hv) rfl
                    refine zv_c zq_0 zo_0 rfl rfl rfl rfl rfl rfl (t_f_ColumnVaultLaw_isJoined _ _ _ _ _ _ _ hv) ?_
                    replace hf := zf_ite hf
                    obtain ⟨hc, hf⟩ | ⟨hc, hf⟩ := hf
                    · refine zv_brT (off := 46) (tt := 217) (r := []) zq_0 zo_0 hc rfl rfl rfl ?_
                      refine zv_p (k := 1) (f' := (218, [(3, .int v28), (2, .ref q3), (1, .ref v1), (0, .ref zx_lim)], [.int (0 : Int32)])) zq_0 zo_0 (by with_unfolding_all rfl) ?_
                      cases hf
                      exact zv_rn zq_0 zo_0 rfl rfl
                    · refine zv_brF (off := 46) (tt := 217) (r := []) zq_0 zo_0 hc rfl rfl rfl ?_
                      refine zv_p (k := 3) (f' := (177, [(3, .int v28), (2, .ref q3), (1, .ref v1), (0, .ref zx_lim)], [.int v28, .ref v1, .ref q3])) zq_0 zo_0 (by with_unfolding_all rfl) ?_
                      replace hf := zf_b3e hf
                      obtain ⟨v55, h56, hv, hf⟩ | ⟨E57, h56, hv, hf⟩ := hf
                      rotate_left
                      · cases hf; exact zv_cx zq_0 zo_0 rfl rfl rfl rfl rfl rfl (t_f_ColumnVaultLaw_isTold _ _ _ _ _ _ hv) rfl
                      refine zv_c zq_0 zo_0 rfl rfl rfl rfl rfl rfl (t_f_ColumnVaultLaw_isTold _ _ _ _ _ _ hv) ?_
                      replace hf := zf_ite hf
                      obtain ⟨hc, hf⟩ | ⟨hc, hf⟩ := hf
                      · refine zv_brT (off := 37) (tt := 217) (r := []) zq_0 zo_0 hc rfl rfl rfl ?_
                        refine zv_p (k := 1) (f' := (218, [(3, .int v28), (2, .ref q3), (1, .ref v1), (0, .ref zx_lim)], [.int (0 : Int32)])) zq_0 zo_0 (by with_unfolding_all rfl) ?_
                        cases hf
                        exact zv_rn zq_0 zo_0 rfl rfl
                      · refine zv_brF (off := 37) (tt := 217) (r := []) zq_0 zo_0 hc rfl rfl rfl ?_
                        refine zv_p (k := 3) (f' := (186, [(3, .int v28), (2, .ref q3), (1, .ref v1), (0, .ref zx_lim)], [.int (3 : Int32), .ref v1, .ref q3])) zq_0 zo_0 (by with_unfolding_all rfl) ?_
                        replace hf := zf_b2e hf
                        obtain ⟨v58, h59, hv, hf⟩ := hf
                        refine zv_c zq_0 zo_0 rfl rfl rfl rfl rfl rfl (t_f_ColumnVaultLaw_draw _ _ _ _ _ hv) ?_
                        refine zv_p (k := 2) (f' := (191, [(3, .int v28), (2, .ref q3), (1, .ref v1), (0, .ref zx_lim)], [.int (3 : Int32), .ref v1, .int v58, .ref q3])) zq_0 zo_0 (by with_unfolding_all rfl) ?_
                        replace hf := zf_b2e hf
                        obtain ⟨v60, h61, hv, hf⟩ := hf
                        refine zv_c zq_0 zo_0 rfl rfl rfl rfl rfl rfl (t_f_ColumnVaultLaw_draw _ _ _ _ _ hv) ?_
                        replace hf := zf_b3e hf
                        obtain ⟨v62, h63, hv, hf⟩ | ⟨E64, h63, hv, hf⟩ := hf
                        rotate_left
                        · cases hf; exact zv_cx zq_0 zo_0 rfl rfl rfl rfl rfl rfl (t_f_ColumnVaultLaw_areSets _ _ _ _ _ _ hv) rfl
                        refine zv_c zq_0 zo_0 rfl rfl rfl rfl rfl rfl (t_f_ColumnVaultLaw_areSets _ _ _ _ _ _ hv) ?_
                        replace hf := zf_ite hf
                        obtain ⟨hc, hf⟩ | ⟨hc, hf⟩ := hf
                        · refine zv_brT (off := 20) (tt := 217) (r := []) zq_0 zo_0 hc rfl rfl rfl ?_
                          refine zv_p (k := 1) (f' := (218, [(3, .int v28), (2, .ref q3), (1, .ref v1), (0, .ref zx_lim)], [.int (0 : Int32)])) zq_0 zo_0 (by with_unfolding_all rfl) ?_
                          cases hf
                          exact zv_rn zq_0 zo_0 rfl rfl
                        · refine zv_brF (off := 20) (tt := 217) (r := []) zq_0 zo_0 hc rfl rfl rfl ?_
                          refine zv_p (k := 2) (f' := (202, [(3, .int v28), (2, .ref q3), (1, .ref v1), (0, .ref zx_lim)], [.int v28, .ref q3])) zq_0 zo_0 (by with_unfolding_all rfl) ?_
                          replace hf := zf_b3e hf
                          obtain ⟨v65, h66, hv, hf⟩ | ⟨E67, h66, hv, hf⟩ := hf
                          rotate_left
                          · cases hf; exact zv_cx zq_0 zo_0 rfl rfl rfl rfl rfl rfl (t_f_ColumnVaultLaw_areAlike _ _ _ _ _ hv) rfl
                          refine zv_c zq_0 zo_0 rfl rfl rfl rfl rfl rfl (t_f_ColumnVaultLaw_areAlike _ _ _ _ _ hv) ?_
                          replace hf := zf_ite hf
                          obtain ⟨hc, hf⟩ | ⟨hc, hf⟩ := hf
                          · refine zv_brT (off := 12) (tt := 217) (r := []) zq_0 zo_0 hc rfl rfl rfl ?_
                            refine zv_p (k := 1) (f' := (218, [(3, .int v28), (2, .ref q3), (1, .ref v1), (0, .ref zx_lim)], [.int (0 : Int32)])) zq_0 zo_0 (by with_unfolding_all rfl) ?_
                            cases hf
                            exact zv_rn zq_0 zo_0 rfl rfl
                          · refine zv_brF (off := 12) (tt := 217) (r := []) zq_0 zo_0 hc rfl rfl rfl ?_
                            refine zv_p (k := 3) (f' := (211, [(3, .int v28), (2, .ref q3), (1, .ref v1), (0, .ref zx_lim)], [.int v28, .ref v1, .ref q3])) zq_0 zo_0 (by with_unfolding_all rfl) ?_
                            replace hf := zf_b3e hf
                            obtain ⟨v68, h69, hv, hf⟩ | ⟨E70, h69, hv, hf⟩ := hf
                            rotate_left
                            · cases hf; exact zv_cx zq_0 zo_0 rfl rfl rfl rfl rfl rfl (t_f_ColumnVaultLaw_isGrouped _ _ _ _ _ _ hv) rfl
                            refine zv_c zq_0 zo_0 rfl rfl rfl rfl rfl rfl (t_f_ColumnVaultLaw_isGrouped _ _ _ _ _ _ hv) ?_
                            replace hf := zf_ite hf
                            obtain ⟨hc, hf⟩ | ⟨hc, hf⟩ := hf
                            · refine zv_brT (off := 5) (tt := 219) (r := []) zq_0 zo_0 hc rfl rfl rfl ?_
                              refine zv_p (k := 2) (f' := (221, [(3, .int v28), (2, .ref q3), (1, .ref v1), (0, .ref zx_lim)], [.ref v1, .ref q3])) zq_0 zo_0 (by with_unfolding_all rfl) ?_
                              replace hf := zf_b3e hf
                              obtain ⟨v71, h72, hv, hf⟩ | ⟨E73, h72, hv, hf⟩ := hf
                              rotate_left
                              · cases hf; exact zv_cx zq_0 zo_0 rfl rfl rfl rfl rfl rfl (t_f_ColumnVaultLaw_isBack _ _ _ _ _ hv) rfl
                              refine zv_c zq_0 zo_0 rfl rfl rfl rfl rfl rfl (t_f_ColumnVaultLaw_isBack _ _ _ _ _ hv) ?_
                              replace hf := zf_ite hf
                              obtain ⟨hc, hf⟩ | ⟨hc, hf⟩ := hf
                              · refine zv_brT (off := 11) (tt := 235) (r := []) zq_0 zo_0 hc rfl rfl rfl ?_
                                refine zv_p (k := 1) (f' := (236, [(3, .int v28), (2, .ref q3), (1, .ref v1), (0, .ref zx_lim)], [.int (0 : Int32)])) zq_0 zo_0 (by with_unfolding_all rfl) ?_
                                cases hf
                                exact zv_rn zq_0 zo_0 rfl rfl
                              · refine zv_brF (off := 11) (tt := 235) (r := []) zq_0 zo_0 hc rfl rfl rfl ?_
                                refine zv_p (k := 2) (f' := (229, [(3, .int v28), (2, .ref q3), (1, .ref v1), (0, .ref zx_lim)], [.ref v1, .ref q3])) zq_0 zo_0 (by with_unfolding_all rfl) ?_
                                replace hf := zf_b3e hf
                                obtain ⟨v74, h75, hv, hf⟩ | ⟨E76, h75, hv, hf⟩ := hf
                                rotate_left
                                · cases hf; exact zv_cx zq_0 zo_0 rfl rfl rfl rfl rfl rfl (t_f_ColumnVaultLaw_areRefused _ _ _ _ _ hv) rfl
                                refine zv_c zq_0 zo_0 rfl rfl rfl rfl rfl rfl (t_f_ColumnVaultLaw_areRefused _ _ _ _ _ hv) ?_
                                replace hf := zf_ite hf
                                obtain ⟨hc, hf⟩ | ⟨hc, hf⟩ := hf
                                · refine zv_brT (off := 5) (tt := 237) (r := []) zq_0 zo_0 hc rfl rfl rfl ?_
                                  refine zv_p (k := 3) (f' := (240, [(3, .int v28), (2, .ref q3), (1, .ref v1), (0, .ref zx_lim)], [.int (0 : Int32), .int (0 : Int32), .ref q3])) zq_0 zo_0 (by with_unfolding_all rfl) ?_
                                  replace hf := zf_be hf
                                  obtain ⟨_, ho, hf⟩ := hf
                                  replace hf := zf_b3e hf
                                  obtain ⟨v77, h78, hv, hf⟩ | ⟨E79, h78, hv, hf⟩ := hf
                                  rotate_left
                                  · cases hf; exact zv_cx zq_0 zo_0 rfl rfl rfl rfl rfl (zv_cv rfl rfl rfl (zf_ise ho) rfl) (t_f_ColumnVault_size _ _ _ _ _ _ hv) rfl
                                  refine zv_c zq_0 zo_0 rfl rfl rfl rfl rfl (zv_cv rfl rfl rfl (zf_ise ho) rfl) (t_f_ColumnVault_size _ _ _ _ _ _ hv) ?_
                                  replace hf := zf_ite hf
                                  obtain ⟨hc, hf⟩ | ⟨hc, hf⟩ := hf
                                  · refine zv_brT (off := 27) (tt := 270) (r := []) zq_0 zo_0 hc rfl rfl rfl ?_
                                    refine zv_p (k := 2) (f' := (275, [(3, .int v28), (2, .ref q3), (1, .ref v1), (0, .ref zx_lim)], [.int (1 : Int32)])) zq_0 zo_0 (by with_unfolding_all rfl) ?_
                                    cases hf
                                    exact zv_rn zq_0 zo_0 rfl rfl
                                  · refine zv_brF (off := 27) (tt := 270) (r := []) zq_0 zo_0 hc rfl rfl rfl ?_
                                    refine zv_p (k := 2) (f' := (248, [(3, .int v28), (2, .ref q3), (1, .ref v1), (0, .ref zx_lim)], [.int (0 : Int32), .ref q3])) zq_0 zo_0 (by with_unfolding_all rfl) ?_
                                    replace hf := zf_be hf
                                    obtain ⟨_, ho, hf⟩ := hf
                                    replace hf := zf_b3e hf
                                    obtain ⟨v80, h81, hv, hf⟩ | ⟨E82, h81, hv, hf⟩ := hf
                                    rotate_left
                                    · cases hf; exact zv_cx zq_0 zo_0 rfl rfl rfl rfl rfl (zv_cv rfl rfl rfl (zf_ise ho) rfl) (t_f_ColumnVault_chosenShare _ _ _ _ _ hv) rfl
                                    refine zv_c zq_0 zo_0 rfl rfl rfl rfl rfl (zv_cv rfl rfl rfl (zf_ise ho) rfl) (t_f_ColumnVault_chosenShare _ _ _ _ _ hv) ?_
                                    refine zv_p (k := 3) (f' := (254, [(3, .int v28), (2, .ref q3), (1, .ref v1), (0, .ref zx_lim)], [.int (2 : Int32), .int (0 : Int32), .ref q3, .float v80])) zq_0 zo_0 (by with_unfolding_all rfl) ?_
                                    replace hf := zf_be hf
                                    obtain ⟨_, ho, hf⟩ := hf
                                    replace hf := zf_b3e hf
                                    obtain ⟨v83, h84, hv, hf⟩ | ⟨E85, h84, hv, hf⟩ := hf
                                    rotate_left
                                    · cases hf; exact zv_cx zq_0 zo_0 rfl rfl rfl rfl rfl (zv_cv rfl rfl rfl (zf_ise ho) rfl) (t_f_ColumnVault_size _ _ _ _ _ _ hv) rfl
                                    refine zv_c zq_0 zo_0 rfl rfl rfl rfl rfl (zv_cv rfl rfl rfl (zf_ise ho) rfl) (t_f_ColumnVault_size _ _ _ _ _ _ hv) ?_
                                    refine zv_p (k := 4) (f' := (261, [(3, .int v28), (2, .ref q3), (1, .ref v1), (0, .ref zx_lim)], [.int (0 : Int32), .int (0 : Int32), .ref q3, .float (FP.i2f v83), .float v80])) zq_0 zo_0 (by with_unfolding_all rfl) ?_
                                    replace hf := zf_be hf
                                    obtain ⟨_, ho, hf⟩ := hf
                                    replace hf := zf_b3e hf
                                    obtain ⟨v86, h87, hv, hf⟩ | ⟨E88, h87, hv, hf⟩ := hf
                                    rotate_left
                                    · cases hf; exact zv_cx zq_0 zo_0 rfl rfl rfl rfl rfl (zv_cv rfl rfl rfl (zf_ise ho) rfl) (t_f_ColumnVault_size _ _ _ _ _ _ hv) rfl
                                    refine zv_c zq_0 zo_0 rfl rfl rfl rfl rfl (zv_cv rfl rfl rfl (zf_ise ho) rfl) (t_f_ColumnVault_size _ _ _ _ _ _ hv) ?_
                                    refine zv_p (k := 1) (f' := (265, [(3, .int v28), (2, .ref q3), (1, .ref v1), (0, .ref zx_lim)], [.float (FP.i2f v86), .float (FP.i2f v83), .float v80])) zq_0 zo_0 (by with_unfolding_all rfl) ?_
                                    replace hf := zf_ite hf
                                    obtain ⟨hc, hf⟩ | ⟨hc, hf⟩ := hf
                                    rotate_left
                                    · cases hf
                                    refine zv_fdiv zq_0 zo_0 rfl hc ?_
                                    refine zv_p (k := 1) (f' := (267, [(3, .int v28), (2, .ref q3), (1, .ref v1), (0, .ref zx_lim)], [.int (Op.cmpValue (FP.fcmp v80 (FP.fdiv (FP.i2f v83) (FP.i2f v86))) .l)])) zq_0 zo_0 (by with_unfolding_all rfl) ?_
                                    replace hf := zf_ite hf
                                    obtain ⟨hc, hf⟩ | ⟨hc, hf⟩ := hf
                                    · refine zv_brT (off := 7) (tt := 274) (r := []) zq_0 zo_0 hc rfl rfl rfl ?_
                                      refine zv_p (k := 1) (f' := (275, [(3, .int v28), (2, .ref q3), (1, .ref v1), (0, .ref zx_lim)], [.int (0 : Int32)])) zq_0 zo_0 (by with_unfolding_all rfl) ?_
                                      cases hf
                                      exact zv_rn zq_0 zo_0 rfl rfl
                                    · refine zv_brF (off := 7) (tt := 274) (r := []) zq_0 zo_0 hc rfl rfl rfl ?_
                                      refine zv_p (k := 2) (f' := (275, [(3, .int v28), (2, .ref q3), (1, .ref v1), (0, .ref zx_lim)], [.int (1 : Int32)])) zq_0 zo_0 (by with_unfolding_all rfl) ?_
                                      cases hf
                                      exact zv_rn zq_0 zo_0 rfl rfl
                                · refine zv_brF (off := 5) (tt := 237) (r := []) zq_0 zo_0 hc rfl rfl rfl ?_
                                  refine zv_p (k := 1) (f' := (236, [(3, .int v28), (2, .ref q3), (1, .ref v1), (0, .ref zx_lim)], [.int (0 : Int32)])) zq_0 zo_0 (by with_unfolding_all rfl) ?_
                                  cases hf
                                  exact zv_rn zq_0 zo_0 rfl rfl
                            · refine zv_brF (off := 5) (tt := 219) (r := []) zq_0 zo_0 hc rfl rfl rfl ?_
                              refine zv_p (k := 1) (f' := (218, [(3, .int v28), (2, .ref q3), (1, .ref v1), (0, .ref zx_lim)], [.int (0 : Int32)])) zq_0 zo_0 (by with_unfolding_all rfl) ?_
                              cases hf
                              exact zv_rn zq_0 zo_0 rfl rfl
                · refine zv_brF (off := 5) (tt := 146) (r := []) zq_0 zo_0 hc rfl rfl rfl ?_
                  refine zv_p (k := 1) (f' := (145, [(3, .int v28), (2, .ref q3), (1, .ref v1), (0, .ref zx_lim)], [.int (0 : Int32)])) zq_0 zo_0 (by with_unfolding_all rfl) ?_
                  cases hf
                  exact zv_rn zq_0 zo_0 rfl rfl
      · refine zv_brF (off := 5) (tt := 54) (r := []) zq_0 zo_0 (mt zl_eq.mp hc) rfl rfl rfl ?_
        refine zv_p (k := 1) (f' := (53, [(2, .ref q3), (1, .ref v1), (0, .ref zx_lim)], [.int (0 : Int32)])) zq_0 zo_0 (by with_unfolding_all rfl) ?_
        cases hf
        exact zv_rn zq_0 zo_0 rfl rfl
