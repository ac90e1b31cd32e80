/-! ColumnVaultLaw.areSets (LColumnVault;II)Z -/
noncomputable def zI_299 : zd_T := [[(0, .aload_n 0, 1), (1, .iload_n 1, 1), (2, .iconst 1, 1), (3, .invokevirtual 147, 3), (6, .aload_n 0, 1), (7, .iload_n 2, 1), (8, .iconst 1, 1), (9, .invokevirtual 147, 3), (12, .if_icmp .ne 7, 3), (15, .iconst 1, 1), (16, .goto 4, 3), (19, .iconst 0, 1), (20, .istore_n 3, 1), (21, .iconst 0, 1), (22, .istore 4, 2), (24, .iload 4, 2), (26, .aload_n 0, 1), (27, .iload_n 1, 1), (28, .iconst 1, 1), (29, .invokevirtual 147, 3)], [(32, .if_icmp .ge 36, 3), (35, .iload_n 3, 1), (36, .ifCond .eq 32, 3), (39, .aload_n 0, 1), (40, .iload_n 1, 1), (41, .iload 4, 2), (43, .invokevirtual 166, 3), (46, .aload_n 0, 1), (47, .iload_n 2, 1), (48, .iload 4, 2), (50, .invokevirtual 166, 3), (53, .if_icmp .ne 7, 3), (56, .iconst 1, 1), (57, .goto 4, 3), (60, .iconst 0, 1), (61, .istore_n 3, 1), (62, .iinc 4 1, 3)], [(65, .goto (-41), 3), (68, .iload_n 3, 1), (69, .ifCond .ne 25, 3), (72, .aload_n 0, 1), (73, .bipush 18, 2), (75, .iload_n 1, 1), (76, .iload_n 2, 1), (77, .lconst 1, 1), (78, .invokestatic 278, 3), (81, .ldc2_w 160, 3), (84, .lcmp, 1), (85, .ifCond .ne 7, 3), (88, .iconst 1, 1), (89, .goto 4, 3), (92, .iconst 0, 1), (93, .ireturn, 1), (94, .aload_n 0, 1), (95, .iload_n 1, 1)], [(96, .iload_n 2, 1), (97, .iconst 1, 1), (98, .invokevirtual 137, 3), (101, .istore 4, 2), (103, .aload_n 0, 1), (104, .iload_n 1, 1), (105, .iload_n 2, 1), (106, .iconst 2, 1), (107, .invokevirtual 137, 3), (110, .istore 5, 2), (112, .aload_n 0, 1), (113, .iload_n 2, 1), (114, .iload_n 1, 1), (115, .iconst 1, 1), (116, .invokevirtual 137, 3), (119, .iload 4, 2), (121, .if_icmp .ne 93, 3), (124, .aload_n 0, 1), (125, .iload_n 2, 1), (126, .iload_n 1, 1), (127, .iconst 2, 1)], [(128, .invokevirtual 137, 3), (131, .iload 5, 2), (133, .if_icmp .ne 81, 3), (136, .aload_n 0, 1), (137, .iload_n 1, 1), (138, .iload_n 2, 1), (139, .iconst 3, 1), (140, .invokevirtual 137, 3), (143, .aload_n 0, 1), (144, .iload_n 2, 1), (145, .iload_n 1, 1), (146, .iconst 3, 1), (147, .invokevirtual 137, 3), (150, .iadd, 1), (151, .iload 5, 2), (153, .iadd, 1), (154, .iload 4, 2), (156, .if_icmp .ne 58, 3), (159, .aload_n 0, 1)], [(160, .iload_n 1, 1), (161, .iload_n 1, 1), (162, .iconst 1, 1), (163, .invokevirtual 137, 3), (166, .aload_n 0, 1), (167, .iload_n 1, 1), (168, .iload_n 2, 1), (169, .iconst 3, 1), (170, .invokevirtual 137, 3), (173, .iload 5, 2), (175, .iadd, 1), (176, .if_icmp .ne 38, 3), (179, .aload_n 0, 1), (180, .iload_n 1, 1), (181, .iconst 2, 1), (182, .invokevirtual 147, 3), (185, .aload_n 0, 1), (186, .iload_n 1, 1), (187, .iload_n 2, 1), (188, .iconst 0, 1), (189, .invokevirtual 137, 3)], [(192, .isub, 1), (193, .aload_n 0, 1), (194, .iload_n 2, 1), (195, .iconst 2, 1), (196, .invokevirtual 147, 3), (199, .aload_n 0, 1), (200, .iload_n 2, 1), (201, .iload_n 1, 1), (202, .iconst 0, 1), (203, .invokevirtual 137, 3), (206, .isub, 1), (207, .if_icmp .ne 7, 3), (210, .iconst 1, 1), (211, .goto 4, 3), (214, .iconst 0, 1), (215, .ireturn, 1)]]
theorem zo_299 : zd_of 299 = some zI_299 := rfl
set_option maxRecDepth 100000 in
theorem zq_299 : zt_m[299]? = some (⟨"ColumnVaultLaw", "areSets", "(LColumnVault;II)Z"⟩, method_29_code, 6, some (.boolean), [], 17, 3, 0, 1, 99999, 0) := rfl
set_option maxHeartbeats 1000000 in
def f_ColumnVaultLaw_areSets_68 (p0 : Nat) (p1 : Int32) (p2 : Int32) (p3 : Int32) (h : zx_H) : Option ((Int32 ⊕ Nat) × zx_H) :=
  if ¬ p3 = 0 then
    zf_b (zf_is 12 p0 h) fun _ =>
    zf_b3 (f_ColumnVault_alike p0 p1 p2 (1 : Int32) h) fun v1 h2 =>
    zf_b (zf_is 12 p0 h2) fun _ =>
    zf_b3 (f_ColumnVault_alike p0 p1 p2 (2 : Int32) h2) fun v4 h5 =>
    zf_b (zf_is 12 p0 h5) fun _ =>
    zf_b3 (f_ColumnVault_alike p0 p2 p1 (1 : Int32) h5) fun v7 h8 =>
    if ¬ v7 = v1 then
      some (.inl (0 : Int32), h8)
    else
      zf_b (zf_is 12 p0 h8) fun _ =>
      zf_b3 (f_ColumnVault_alike p0 p2 p1 (2 : Int32) h8) fun v10 h11 =>
      if ¬ v10 = v4 then
        some (.inl (0 : Int32), h11)
      else
        zf_b (zf_is 12 p0 h11) fun _ =>
        zf_b3 (f_ColumnVault_alike p0 p1 p2 (3 : Int32) h11) fun v13 h14 =>
        zf_b (zf_is 12 p0 h14) fun _ =>
        zf_b3 (f_ColumnVault_alike p0 p2 p1 (3 : Int32) h14) fun v16 h17 =>
        if ¬ ((v13 + v16) + v4) = v1 then
          some (.inl (0 : Int32), h17)
        else
          zf_b (zf_is 12 p0 h17) fun _ =>
          zf_b3 (f_ColumnVault_alike p0 p1 p1 (1 : Int32) h17) fun v19 h20 =>
          zf_b (zf_is 12 p0 h20) fun _ =>
          zf_b3 (f_ColumnVault_alike p0 p1 p2 (3 : Int32) h20) fun v22 h23 =>
          if ¬ v19 = (v22 + v4) then
            some (.inl (0 : Int32), h23)
          else
            zf_b (zf_is 12 p0 h23) fun _ =>
            zf_b3 (f_ColumnVault_size p0 p1 (2 : Int32) h23) fun v25 h26 =>
            zf_b (zf_is 12 p0 h26) fun _ =>
            zf_b3 (f_ColumnVault_alike p0 p1 p2 (0 : Int32) h26) fun v28 h29 =>
            zf_b (zf_is 12 p0 h29) fun _ =>
            zf_b3 (f_ColumnVault_size p0 p2 (2 : Int32) h29) fun v31 h32 =>
            zf_b (zf_is 12 p0 h32) fun _ =>
            zf_b3 (f_ColumnVault_alike p0 p2 p1 (0 : Int32) h32) fun v34 h35 =>
            if ¬ (v25 - v28) = (v31 - v34) then
              some (.inl (0 : Int32), h35)
            else
              some (.inl (1 : Int32), h35)
  else
    zf_b2 (f_ColumnVaultLaw_asks p0 (18 : Int32) p1 p2 (1 : Int64) h) fun v37 h38 =>
    if ¬ v37 = (-3000000003 : Int64) then
      some (.inl (0 : Int32), h38)
    else
      some (.inl (1 : Int32), h38)
set_option maxHeartbeats 4000000 in
set_option maxRecDepth 400000 in
theorem t_f_ColumnVaultLaw_areSets_68 {sc : (Nat × (Nat → Int32)) × Bool} {d : Nat} (p0 : Nat) (p1 : Int32) (p2 : Int32) (p3 : Int32) (h : zx_H) (r : (Int32 ⊕ Nat)) (h' : zx_H) (hf : f_ColumnVaultLaw_areSets_68 p0 p1 p2 p3 h = some (r, h')) : zx_T sc (d + 125) 299 (68, [(0, .ref p0), (1, .int p1), (2, .int p2), (3, .int p3)], []) h (zf_oIx r) h' := by
  unfold f_ColumnVaultLaw_areSets_68 at hf
  refine zv_p (k := 1) (f' := (69, [(0, .ref p0), (1, .int p1), (2, .int p2), (3, .int p3)], [.int p3])) zq_299 zo_299 (by with_unfolding_all rfl) ?_
  replace hf := zf_ite hf
  obtain ⟨hc, hf⟩ | ⟨hc, hf⟩ := hf
  · refine zv_brT (off := 25) (tt := 94) (r := []) zq_299 zo_299 hc rfl rfl rfl ?_
    refine zv_p (k := 4) (f' := (98, [(0, .ref p0), (1, .int p1), (2, .int p2), (3, .int p3)], [.int (1 : Int32), .int p2, .int p1, .ref p0])) zq_299 zo_299 (by with_unfolding_all rfl) ?_
    replace hf := zf_be hf
    obtain ⟨_, ho, hf⟩ := hf
    replace hf := zf_b3e hf
    obtain ⟨v1, h2, hv, hf⟩ | ⟨E3, h2, hv, hf⟩ := hf
    rotate_left
    · cases hf; exact zv_cx zq_299 zo_299 rfl rfl rfl rfl rfl (zv_cv rfl rfl rfl (zf_ise ho) rfl) (t_f_ColumnVault_alike _ _ _ _ _ _ _ hv) rfl
    refine zv_c zq_299 zo_299 rfl rfl rfl rfl rfl (zv_cv rfl rfl rfl (zf_ise ho) rfl) (t_f_ColumnVault_alike _ _ _ _ _ _ _ hv) ?_
    refine zv_p (k := 5) (f' := (107, [(4, .int v1), (0, .ref p0), (1, .int p1), (2, .int p2), (3, .int p3)], [.int (2 : Int32), .int p2, .int p1, .ref p0])) zq_299 zo_299 (by with_unfolding_all rfl) ?_
    replace hf := zf_be hf
    obtain ⟨_, ho, hf⟩ := hf
    replace hf := zf_b3e hf
    obtain ⟨v4, h5, hv, hf⟩ | ⟨E6, h5, hv, hf⟩ := hf
    rotate_left
    · cases hf; exact zv_cx zq_299 zo_299 rfl rfl rfl rfl rfl (zv_cv rfl rfl rfl (zf_ise ho) rfl) (t_f_ColumnVault_alike _ _ _ _ _ _ _ hv) rfl
    refine zv_c zq_299 zo_299 rfl rfl rfl rfl rfl (zv_cv rfl rfl rfl (zf_ise ho) rfl) (t_f_ColumnVault_alike _ _ _ _ _ _ _ hv) ?_
    refine zv_p (k := 5) (f' := (116, [(5, .int v4), (4, .int v1), (0, .ref p0), (1, .int p1), (2, .int p2), (3, .int p3)], [.int (1 : Int32), .int p1, .int p2, .ref p0])) zq_299 zo_299 (by with_unfolding_all rfl) ?_
    replace hf := zf_be hf
    obtain ⟨_, ho, hf⟩ := hf
    replace hf := zf_b3e hf
    obtain ⟨v7, h8, hv, hf⟩ | ⟨E9, h8, hv, hf⟩ := hf
    rotate_left
    · cases hf; exact zv_cx zq_299 zo_299 rfl rfl rfl rfl rfl (zv_cv rfl rfl rfl (zf_ise ho) rfl) (t_f_ColumnVault_alike _ _ _ _ _ _ _ hv) rfl
    refine zv_c zq_299 zo_299 rfl rfl rfl rfl rfl (zv_cv rfl rfl rfl (zf_ise ho) rfl) (t_f_ColumnVault_alike _ _ _ _ _ _ _ hv) ?_
    refine zv_p (k := 1) (f' := (121, [(5, .int v4), (4, .int v1), (0, .ref p0), (1, .int p1), (2, .int p2), (3, .int p3)], [.int v1, .int v7])) zq_299 zo_299 (by with_unfolding_all rfl) ?_
    replace hf := zf_ite hf
    obtain ⟨hc, hf⟩ | ⟨hc, hf⟩ := hf
    · refine zv_brT (off := 93) (tt := 214) (r := []) zq_299 zo_299 hc rfl rfl rfl ?_
      refine zv_p (k := 1) (f' := (215, [(5, .int v4), (4, .int v1), (0, .ref p0), (1, .int p1), (2, .int p2), (3, .int p3)], [.int (0 : Int32)])) zq_299 zo_299 (by with_unfolding_all rfl) ?_
      cases hf
      exact zv_rn zq_299 zo_299 rfl rfl
    · refine zv_brF (off := 93) (tt := 214) (r := []) zq_299 zo_299 hc rfl rfl rfl ?_
      refine zv_p (k := 4) (f' := (128, [(5, .int v4), (4, .int v1), (0, .ref p0), (1, .int p1), (2, .int p2), (3, .int p3)], [.int (2 : Int32), .int p1, .int p2, .ref p0])) zq_299 zo_299 (by with_unfolding_all rfl) ?_
      replace hf := zf_be hf
      obtain ⟨_, ho, hf⟩ := hf
      replace hf := zf_b3e hf
      obtain ⟨v10, h11, hv, hf⟩ | ⟨E12, h11, hv, hf⟩ := hf
      rotate_left
      · cases hf; exact zv_cx zq_299 zo_299 rfl rfl rfl rfl rfl (zv_cv rfl rfl rfl (zf_ise ho) rfl) (t_f_ColumnVault_alike _ _ _ _ _ _ _ hv) rfl
      refine zv_c zq_299 zo_299 rfl rfl rfl rfl rfl (zv_cv rfl rfl rfl (zf_ise ho) rfl) (t_f_ColumnVault_alike _ _ _ _ _ _ _ hv) ?_
      refine zv_p (k := 1) (f' := (133, [(5, .int v4), (4, .int v1), (0, .ref p0), (1, .int p1), (2, .int p2), (3, .int p3)], [.int v4, .int v10])) zq_299 zo_299 (by with_unfolding_all rfl) ?_
      replace hf := zf_ite hf
      obtain ⟨hc, hf⟩ | ⟨hc, hf⟩ := hf
      · refine zv_brT (off := 81) (tt := 214) (r := []) zq_299 zo_299 hc rfl rfl rfl ?_
        refine zv_p (k := 1) (f' := (215, [(5, .int v4), (4, .int v1), (0, .ref p0), (1, .int p1), (2, .int p2), (3, .int p3)], [.int (0 : Int32)])) zq_299 zo_299 (by with_unfolding_all rfl) ?_
        cases hf
        exact zv_rn zq_299 zo_299 rfl rfl
      · refine zv_brF (off := 81) (tt := 214) (r := []) zq_299 zo_299 hc rfl rfl rfl ?_
        refine zv_p (k := 4) (f' := (140, [(5, .int v4), (4, .int v1), (0, .ref p0), (1, .int p1), (2, .int p2), (3, .int p3)], [.int (3 : Int32), .int p2, .int p1, .ref p0])) zq_299 zo_299 (by with_unfolding_all rfl) ?_
        replace hf := zf_be hf
        obtain ⟨_, ho, hf⟩ := hf
        replace hf := zf_b3e hf
        obtain ⟨v13, h14, hv, hf⟩ | ⟨E15, h14, hv, hf⟩ := hf
        rotate_left
        · cases hf; exact zv_cx zq_299 zo_299 rfl rfl rfl rfl rfl (zv_cv rfl rfl rfl (zf_ise ho) rfl) (t_f_ColumnVault_alike _ _ _ _ _ _ _ hv) rfl
        refine zv_c zq_299 zo_299 rfl rfl rfl rfl rfl (zv_cv rfl rfl rfl (zf_ise ho) rfl) (t_f_ColumnVault_alike _ _ _ _ _ _ _ hv) ?_
        refine zv_p (k := 4) (f' := (147, [(5, .int v4), (4, .int v1), (0, .ref p0), (1, .int p1), (2, .int p2), (3, .int p3)], [.int (3 : Int32), .int p1, .int p2, .ref p0, .int v13])) zq_299 zo_299 (by with_unfolding_all rfl) ?_
        replace hf := zf_be hf
        obtain ⟨_, ho, hf⟩ := hf
        replace hf := zf_b3e hf
        obtain ⟨v16, h17, hv, hf⟩ | ⟨E18, h17, hv, hf⟩ := hf
        rotate_left
        · cases hf; exact zv_cx zq_299 zo_299 rfl rfl rfl rfl rfl (zv_cv rfl rfl rfl (zf_ise ho) rfl) (t_f_ColumnVault_alike _ _ _ _ _ _ _ hv) rfl
        refine zv_c zq_299 zo_299 rfl rfl rfl rfl rfl (zv_cv rfl rfl rfl (zf_ise ho) rfl) (t_f_ColumnVault_alike _ _ _ _ _ _ _ hv) ?_
        refine zv_p (k := 4) (f' := (156, [(5, .int v4), (4, .int v1), (0, .ref p0), (1, .int p1), (2, .int p2), (3, .int p3)], [.int v1, .int ((v13 + v16) + v4)])) zq_299 zo_299 (by with_unfolding_all rfl) ?_
        replace hf := zf_ite hf
        obtain ⟨hc, hf⟩ | ⟨hc, hf⟩ := hf
        · refine zv_brT (off := 58) (tt := 214) (r := []) zq_299 zo_299 hc rfl rfl rfl ?_
          refine zv_p (k := 1) (f' := (215, [(5, .int v4), (4, .int v1), (0, .ref p0), (1, .int p1), (2, .int p2), (3, .int p3)], [.int (0 : Int32)])) zq_299 zo_299 (by with_unfolding_all rfl) ?_
          cases hf
          exact zv_rn zq_299 zo_299 rfl rfl
        · refine zv_brF (off := 58) (tt := 214) (r := []) zq_299 zo_299 hc rfl rfl rfl ?_
          refine zv_p (k := 4) (f' := (163, [(5, .int v4), (4, .int v1), (0, .ref p0), (1, .int p1), (2, .int p2), (3, .int p3)], [.int (1 : Int32), .int p1, .int p1, .ref p0])) zq_299 zo_299 (by with_unfolding_all rfl) ?_
          replace hf := zf_be hf
          obtain ⟨_, ho, hf⟩ := hf
          replace hf := zf_b3e hf
          obtain ⟨v19, h20, hv, hf⟩ | ⟨E21, h20, hv, hf⟩ := hf
          rotate_left
          · cases hf; exact zv_cx zq_299 zo_299 rfl rfl rfl rfl rfl (zv_cv rfl rfl rfl (zf_ise ho) rfl) (t_f_ColumnVault_alike _ _ _ _ _ _ _ hv) rfl
          refine zv_c zq_299 zo_299 rfl rfl rfl rfl rfl (zv_cv rfl rfl rfl (zf_ise ho) rfl) (t_f_ColumnVault_alike _ _ _ _ _ _ _ hv) ?_
          refine zv_p (k := 4) (f' := (170, [(5, .int v4), (4, .int v1), (0, .ref p0), (1, .int p1), (2, .int p2), (3, .int p3)], [.int (3 : Int32), .int p2, .int p1, .ref p0, .int v19])) zq_299 zo_299 (by with_unfolding_all rfl) ?_
          replace hf := zf_be hf
          obtain ⟨_, ho, hf⟩ := hf
          replace hf := zf_b3e hf
          obtain ⟨v22, h23, hv, hf⟩ | ⟨E24, h23, hv, hf⟩ := hf
          rotate_left
          · cases hf; exact zv_cx zq_299 zo_299 rfl rfl rfl rfl rfl (zv_cv rfl rfl rfl (zf_ise ho) rfl) (t_f_ColumnVault_alike _ _ _ _ _ _ _ hv) rfl
          refine zv_c zq_299 zo_299 rfl rfl rfl rfl rfl (zv_cv rfl rfl rfl (zf_ise ho) rfl) (t_f_ColumnVault_alike _ _ _ _ _ _ _ hv) ?_
          refine zv_p (k := 2) (f' := (176, [(5, .int v4), (4, .int v1), (0, .ref p0), (1, .int p1), (2, .int p2), (3, .int p3)], [.int (v22 + v4), .int v19])) zq_299 zo_299 (by with_unfolding_all rfl) ?_
          replace hf := zf_ite hf
          obtain ⟨hc, hf⟩ | ⟨hc, hf⟩ := hf
          · refine zv_brT (off := 38) (tt := 214) (r := []) zq_299 zo_299 hc rfl rfl rfl ?_
            refine zv_p (k := 1) (f' := (215, [(5, .int v4), (4, .int v1), (0, .ref p0), (1, .int p1), (2, .int p2), (3, .int p3)], [.int (0 : Int32)])) zq_299 zo_299 (by with_unfolding_all rfl) ?_
            cases hf
            exact zv_rn zq_299 zo_299 rfl rfl
          · refine zv_brF (off := 38) (tt := 214) (r := []) zq_299 zo_299 hc rfl rfl rfl ?_
            refine zv_p (k := 3) (f' := (182, [(5, .int v4), (4, .int v1), (0, .ref p0), (1, .int p1), (2, .int p2), (3, .int p3)], [.int (2 : Int32), .int p1, .ref p0])) zq_299 zo_299 (by with_unfolding_all rfl) ?_
            replace hf := zf_be hf
            obtain ⟨_, ho, hf⟩ := hf
            replace hf := zf_b3e hf
            obtain ⟨v25, h26, hv, hf⟩ | ⟨E27, h26, hv, hf⟩ := hf
            rotate_left
            · cases hf; exact zv_cx zq_299 zo_299 rfl rfl rfl rfl rfl (zv_cv rfl rfl rfl (zf_ise ho) rfl) (t_f_ColumnVault_size _ _ _ _ _ _ hv) rfl
            refine zv_c zq_299 zo_299 rfl rfl rfl rfl rfl (zv_cv rfl rfl rfl (zf_ise ho) rfl) (t_f_ColumnVault_size _ _ _ _ _ _ hv) ?_
            refine zv_p (k := 4) (f' := (189, [(5, .int v4), (4, .int v1), (0, .ref p0), (1, .int p1), (2, .int p2), (3, .int p3)], [.int (0 : Int32), .int p2, .int p1, .ref p0, .int v25])) zq_299 zo_299 (by with_unfolding_all rfl) ?_
            replace hf := zf_be hf
            obtain ⟨_, ho, hf⟩ := hf
            replace hf := zf_b3e hf
            obtain ⟨v28, h29, hv, hf⟩ | ⟨E30, h29, hv, hf⟩ := hf
            rotate_left
            · cases hf; exact zv_cx zq_299 zo_299 rfl rfl rfl rfl rfl (zv_cv rfl rfl rfl (zf_ise ho) rfl) (t_f_ColumnVault_alike _ _ _ _ _ _ _ hv) rfl
            refine zv_c zq_299 zo_299 rfl rfl rfl rfl rfl (zv_cv rfl rfl rfl (zf_ise ho) rfl) (t_f_ColumnVault_alike _ _ _ _ _ _ _ hv) ?_
            refine zv_p (k := 4) (f' := (196, [(5, .int v4), (4, .int v1), (0, .ref p0), (1, .int p1), (2, .int p2), (3, .int p3)], [.int (2 : Int32), .int p2, .ref p0, .int (v25 - v28)])) zq_299 zo_299 (by with_unfolding_all rfl) ?_
            replace hf := zf_be hf
            obtain ⟨_, ho, hf⟩ := hf
            replace hf := zf_b3e hf
            obtain ⟨v31, h32, hv, hf⟩ | ⟨E33, h32, hv, hf⟩ := hf
            rotate_left
            · cases hf; exact zv_cx zq_299 zo_299 rfl rfl rfl rfl rfl (zv_cv rfl rfl rfl (zf_ise ho) rfl) (t_f_ColumnVault_size _ _ _ _ _ _ hv) rfl
            refine zv_c zq_299 zo_299 rfl rfl rfl rfl rfl (zv_cv rfl rfl rfl (zf_ise ho) rfl) (t_f_ColumnVault_size _ _ _ _ _ _ hv) ?_
            refine zv_p (k := 4) (f' := (203, [(5, .int v4), (4, .int v1), (0, .ref p0), (1, .int p1), (2, .int p2), (3, .int p3)], [.int (0 : Int32), .int p1, .int p2, .ref p0, .int v31, .int (v25 - v28)])) zq_299 zo_299 (by with_unfolding_all rfl) ?_
            replace hf := zf_be hf
            obtain ⟨_, ho, hf⟩ := hf
            replace hf := zf_b3e hf
            obtain ⟨v34, h35, hv, hf⟩ | ⟨E36, h35, hv, hf⟩ := hf
            rotate_left
            · cases hf; exact zv_cx zq_299 zo_299 rfl rfl rfl rfl rfl (zv_cv rfl rfl rfl (zf_ise ho) rfl) (t_f_ColumnVault_alike _ _ _ _ _ _ _ hv) rfl
            refine zv_c zq_299 zo_299 rfl rfl rfl rfl rfl (zv_cv rfl rfl rfl (zf_ise ho) rfl) (t_f_ColumnVault_alike _ _ _ _ _ _ _ hv) ?_
            refine zv_p (k := 1) (f' := (207, [(5, .int v4), (4, .int v1), (0, .ref p0), (1, .int p1), (2, .int p2), (3, .int p3)], [.int (v31 - v34), .int (v25 - v28)])) zq_299 zo_299 (by with_unfolding_all rfl) ?_
            replace hf := zf_ite hf
            obtain ⟨hc, hf⟩ | ⟨hc, hf⟩ := hf
            · refine zv_brT (off := 7) (tt := 214) (r := []) zq_299 zo_299 hc rfl rfl rfl ?_
              refine zv_p (k := 1) (f' := (215, [(5, .int v4), (4, .int v1), (0, .ref p0), (1, .int p1), (2, .int p2), (3, .int p3)], [.int (0 : Int32)])) zq_299 zo_299 (by with_unfolding_all rfl) ?_
              cases hf
              exact zv_rn zq_299 zo_299 rfl rfl
            · refine zv_brF (off := 7) (tt := 214) (r := []) zq_299 zo_299 hc rfl rfl rfl ?_
              refine zv_p (k := 2) (f' := (215, [(5, .int v4), (4, .int v1), (0, .ref p0), (1, .int p1), (2, .int p2), (3, .int p3)], [.int (1 : Int32)])) zq_299 zo_299 (by with_unfolding_all rfl) ?_
              cases hf
              exact zv_rn zq_299 zo_299 rfl rfl
  · refine zv_brF (off := 25) (tt := 94) (r := []) zq_299 zo_299 hc rfl rfl rfl ?_
    refine zv_p (k := 5) (f' := (78, [(0, .ref p0), (1, .int p1), (2, .int p2), (3, .int p3)], [.long (1 : Int64), .int p2, .int p1, .int (18 : Int32), .ref p0])) zq_299 zo_299 (by with_unfolding_all rfl) ?_
    replace hf := zf_b2e hf
    obtain ⟨v37, h38, hv, hf⟩ := hf
    refine zv_c zq_299 zo_299 rfl rfl rfl rfl rfl rfl (t_f_ColumnVaultLaw_asks _ _ _ _ _ _ _ _ hv) ?_
    refine zv_lng zq_299 zo_299 rfl rfl ?_
    refine zv_p (k := 1) (f' := (85, [(0, .ref p0), (1, .int p1), (2, .int p2), (3, .int p3)], [.int (lg_cmp v37 (-3000000003 : Int64))])) zq_299 zo_299 (by with_unfolding_all rfl) ?_
    replace hf := zf_ite hf
    obtain ⟨hc, hf⟩ | ⟨hc, hf⟩ := hf
    · refine zv_brT (off := 7) (tt := 92) (r := []) zq_299 zo_299 (zl_ne.mpr hc) rfl rfl rfl ?_
      refine zv_p (k := 1) (f' := (93, [(0, .ref p0), (1, .int p1), (2, .int p2), (3, .int p3)], [.int (0 : Int32)])) zq_299 zo_299 (by with_unfolding_all rfl) ?_
      cases hf
      exact zv_rn zq_299 zo_299 rfl rfl
    · refine zv_brF (off := 7) (tt := 92) (r := []) zq_299 zo_299 (mt zl_ne.mp hc) rfl rfl rfl ?_
      refine zv_p (k := 2) (f' := (93, [(0, .ref p0), (1, .int p1), (2, .int p2), (3, .int p3)], [.int (1 : Int32)])) zq_299 zo_299 (by with_unfolding_all rfl) ?_
      cases hf
      exact zv_rn zq_299 zo_299 rfl rfl
set_option maxHeartbeats 1000000 in
def f_ColumnVaultLaw_areSets_24 : Nat → Nat → Int32 → Int32 → Int32 → Int32 → zx_H → Option ((Int32 ⊕ Nat) × zx_H)
  | 0, _, _, _, _, _, _ => none
  | n + 1, p0, p1, p2, p3, p4, h =>
    zf_b (zf_is 12 p0 h) fun _ =>
    zf_b3 (f_ColumnVault_size p0 p1 (1 : Int32) h) fun v1 h2 =>
    if v1 ≤ p4 then
      f_ColumnVaultLaw_areSets_68 p0 p1 p2 p3 h2
    else
      if p3 = 0 then
        f_ColumnVaultLaw_areSets_68 p0 p1 p2 p3 h2
      else
        zf_b (zf_is 12 p0 h2) fun _ =>
        zf_b3 (f_ColumnVault_kind p0 p1 p4 h2) fun v4 h5 =>
        zf_b (zf_is 12 p0 h5) fun _ =>
        zf_b3 (f_ColumnVault_kind p0 p2 p4 h5) fun v7 h8 =>
        if ¬ v4 = v7 then
          (f_ColumnVaultLaw_areSets_24 n) p0 p1 p2 (0 : Int32) (p4 + (1 : Int32)) h8
        else
          (f_ColumnVaultLaw_areSets_24 n) p0 p1 p2 (1 : Int32) (p4 + (1 : Int32)) h8
set_option maxHeartbeats 4000000 in
set_option maxRecDepth 400000 in
theorem t_f_ColumnVaultLaw_areSets_24 {sc : (Nat × (Nat → Int32)) × Bool} {d : Nat} : ∀ (n : Nat) (p0 : Nat) (p1 : Int32) (p2 : Int32) (p3 : Int32) (p4 : Int32) (h : zx_H) (r : (Int32 ⊕ Nat)) (h' : zx_H), f_ColumnVaultLaw_areSets_24 n p0 p1 p2 p3 p4 h = some (r, h') → zx_T sc (d + 125) 299 (24, [(0, .ref p0), (1, .int p1), (2, .int p2), (3, .int p3), (4, .int p4)], []) h (zf_oIx r) h' := by
  intro n
  induction n with
  | zero => intro p0 p1 p2 p3 p4 h r h' hf; cases hf
  | succ n ih =>
    intro p0 p1 p2 p3 p4 h r h' hf
    unfold f_ColumnVaultLaw_areSets_24 at hf
    refine zv_p (k := 4) (f' := (29, [(0, .ref p0), (1, .int p1), (2, .int p2), (3, .int p3), (4, .int p4)], [.int (1 : Int32), .int p1, .ref p0, .int p4])) zq_299 zo_299 (by with_unfolding_all rfl) ?_
    replace hf := zf_be hf
    obtain ⟨_, ho, hf⟩ := hf
    replace hf := zf_b3e hf
    obtain ⟨v1, h2, hv, hf⟩ | ⟨E3, h2, hv, hf⟩ := hf
    rotate_left
    · cases hf; exact zv_cx zq_299 zo_299 rfl rfl rfl rfl rfl (zv_cv rfl rfl rfl (zf_ise ho) rfl) (t_f_ColumnVault_size _ _ _ _ _ _ hv) rfl
    refine zv_c zq_299 zo_299 rfl rfl rfl rfl rfl (zv_cv rfl rfl rfl (zf_ise ho) rfl) (t_f_ColumnVault_size _ _ _ _ _ _ hv) ?_
    replace hf := zf_ite hf
    obtain ⟨hc, hf⟩ | ⟨hc, hf⟩ := hf
    · refine zv_brT (off := 36) (tt := 68) (r := []) zq_299 zo_299 hc rfl rfl rfl ?_
      refine zv_pick (lv' := [(0, .ref p0), (1, .int p1), (2, .int p2), (3, .int p3)]) [0, 1, 2, 3] rfl rfl ?_
      exact t_f_ColumnVaultLaw_areSets_68 _ _ _ _ _ _ _ hf
    · refine zv_brF (off := 36) (tt := 68) (r := []) zq_299 zo_299 hc rfl rfl rfl ?_
      refine zv_p (k := 1) (f' := (36, [(0, .ref p0), (1, .int p1), (2, .int p2), (3, .int p3), (4, .int p4)], [.int p3])) zq_299 zo_299 (by with_unfolding_all rfl) ?_
      replace hf := zf_ite hf
      obtain ⟨hc, hf⟩ | ⟨hc, hf⟩ := hf
      · refine zv_brT (off := 32) (tt := 68) (r := []) zq_299 zo_299 hc rfl rfl rfl ?_
        refine zv_pick (lv' := [(0, .ref p0), (1, .int p1), (2, .int p2), (3, .int p3)]) [0, 1, 2, 3] rfl rfl ?_
        exact t_f_ColumnVaultLaw_areSets_68 _ _ _ _ _ _ _ hf
      · refine zv_brF (off := 32) (tt := 68) (r := []) zq_299 zo_299 hc rfl rfl rfl ?_
        refine zv_p (k := 3) (f' := (43, [(0, .ref p0), (1, .int p1), (2, .int p2), (3, .int p3), (4, .int p4)], [.int p4, .int p1, .ref p0])) zq_299 zo_299 (by with_unfolding_all rfl) ?_
        replace hf := zf_be hf
        obtain ⟨_, ho, hf⟩ := hf
        replace hf := zf_b3e hf
        obtain ⟨v4, h5, hv, hf⟩ | ⟨E6, h5, hv, hf⟩ := hf
        rotate_left
        · cases hf; exact zv_cx zq_299 zo_299 rfl rfl rfl rfl rfl (zv_cv rfl rfl rfl (zf_ise ho) rfl) (t_f_ColumnVault_kind _ _ _ _ _ _ hv) rfl
        refine zv_c zq_299 zo_299 rfl rfl rfl rfl rfl (zv_cv rfl rfl rfl (zf_ise ho) rfl) (t_f_ColumnVault_kind _ _ _ _ _ _ hv) ?_
        refine zv_p (k := 3) (f' := (50, [(0, .ref p0), (1, .int p1), (2, .int p2), (3, .int p3), (4, .int p4)], [.int p4, .int p2, .ref p0, .int v4])) zq_299 zo_299 (by with_unfolding_all rfl) ?_
        replace hf := zf_be hf
        obtain ⟨_, ho, hf⟩ := hf
        replace hf := zf_b3e hf
        obtain ⟨v7, h8, hv, hf⟩ | ⟨E9, h8, hv, hf⟩ := hf
        rotate_left
        · cases hf; exact zv_cx zq_299 zo_299 rfl rfl rfl rfl rfl (zv_cv rfl rfl rfl (zf_ise ho) rfl) (t_f_ColumnVault_kind _ _ _ _ _ _ hv) rfl
        refine zv_c zq_299 zo_299 rfl rfl rfl rfl rfl (zv_cv rfl rfl rfl (zf_ise ho) rfl) (t_f_ColumnVault_kind _ _ _ _ _ _ hv) ?_
        replace hf := zf_ite hf
        obtain ⟨hc, hf⟩ | ⟨hc, hf⟩ := hf
        · refine zv_brT (off := 7) (tt := 60) (r := []) zq_299 zo_299 hc rfl rfl rfl ?_
          refine zv_p (k := 4) (f' := (24, [(4, .int (p4 + (1 : Int32))), (3, .int (0 : Int32)), (0, .ref p0), (1, .int p1), (2, .int p2)], [])) zq_299 zo_299 (by with_unfolding_all rfl) ?_
          refine zv_pick (lv' := [(0, .ref p0), (1, .int p1), (2, .int p2), (3, .int (0 : Int32)), (4, .int (p4 + (1 : Int32)))]) [0, 1, 2, 3, 4] rfl rfl ?_
          exact ih _ _ _ _ _ _ _ _ hf
        · refine zv_brF (off := 7) (tt := 60) (r := []) zq_299 zo_299 hc rfl rfl rfl ?_
          refine zv_p (k := 5) (f' := (24, [(4, .int (p4 + (1 : Int32))), (3, .int (1 : Int32)), (0, .ref p0), (1, .int p1), (2, .int p2)], [])) zq_299 zo_299 (by with_unfolding_all rfl) ?_
          refine zv_pick (lv' := [(0, .ref p0), (1, .int p1), (2, .int p2), (3, .int (1 : Int32)), (4, .int (p4 + (1 : Int32)))]) [0, 1, 2, 3, 4] rfl rfl ?_
          exact ih _ _ _ _ _ _ _ _ hf
set_option maxHeartbeats 1000000 in
def f_ColumnVaultLaw_areSets (p0 : Nat) (p1 : Int32) (p2 : Int32) (h : zx_H) : Option ((Int32 ⊕ Nat) × zx_H) :=
  zf_b (zf_is 12 p0 h) fun _ =>
  zf_b3 (f_ColumnVault_size p0 p1 (1 : Int32) h) fun v1 h2 =>
  zf_b (zf_is 12 p0 h2) fun _ =>
  zf_b3 (f_ColumnVault_size p0 p2 (1 : Int32) h2) fun v4 h5 =>
  if ¬ v1 = v4 then
    f_ColumnVaultLaw_areSets_24 zF p0 p1 p2 (0 : Int32) (0 : Int32) h5
  else
    f_ColumnVaultLaw_areSets_24 zF p0 p1 p2 (1 : Int32) (0 : Int32) h5
set_option maxHeartbeats 4000000 in
set_option maxRecDepth 400000 in
theorem t_f_ColumnVaultLaw_areSets {sc : (Nat × (Nat → Int32)) × Bool} {d : Nat} (p0 : Nat) (p1 : Int32) (p2 : Int32) (h : zx_H) (r : (Int32 ⊕ Nat)) (h' : zx_H) (hf : f_ColumnVaultLaw_areSets p0 p1 p2 h = some (r, h')) : zx_T sc (d + 125) 299 (0, [(0, .ref p0), (1, .int p1), (2, .int p2)], []) h (zf_oIx r) h' := by
  unfold f_ColumnVaultLaw_areSets at hf
  refine zv_p (k := 3) (f' := (3, [(0, .ref p0), (1, .int p1), (2, .int p2)], [.int (1 : Int32), .int p1, .ref p0])) zq_299 zo_299 (by with_unfolding_all rfl) ?_
  replace hf := zf_be hf
  obtain ⟨_, ho, hf⟩ := hf
  replace hf := zf_b3e hf
  obtain ⟨v1, h2, hv, hf⟩ | ⟨E3, h2, hv, hf⟩ := hf
  rotate_left
  · cases hf; exact zv_cx zq_299 zo_299 rfl rfl rfl rfl rfl (zv_cv rfl rfl rfl (zf_ise ho) rfl) (t_f_ColumnVault_size _ _ _ _ _ _ hv) rfl
  refine zv_c zq_299 zo_299 rfl rfl rfl rfl rfl (zv_cv rfl rfl rfl (zf_ise ho) rfl) (t_f_ColumnVault_size _ _ _ _ _ _ hv) ?_
  refine zv_p (k := 3) (f' := (9, [(0, .ref p0), (1, .int p1), (2, .int p2)], [.int (1 : Int32), .int p2, .ref p0, .int v1])) zq_299 zo_299 (by with_unfolding_all rfl) ?_
  replace hf := zf_be hf
  obtain ⟨_, ho, hf⟩ := hf
  replace hf := zf_b3e hf
  obtain ⟨v4, h5, hv, hf⟩ | ⟨E6, h5, hv, hf⟩ := hf
  rotate_left
  · cases hf; exact zv_cx zq_299 zo_299 rfl rfl rfl rfl rfl (zv_cv rfl rfl rfl (zf_ise ho) rfl) (t_f_ColumnVault_size _ _ _ _ _ _ hv) rfl
  refine zv_c zq_299 zo_299 rfl rfl rfl rfl rfl (zv_cv rfl rfl rfl (zf_ise ho) rfl) (t_f_ColumnVault_size _ _ _ _ _ _ hv) ?_
  replace hf := zf_ite hf
  obtain ⟨hc, hf⟩ | ⟨hc, hf⟩ := hf
  · refine zv_brT (off := 7) (tt := 19) (r := []) zq_299 zo_299 hc rfl rfl rfl ?_
    refine zv_p (k := 4) (f' := (24, [(4, .int (0 : Int32)), (3, .int (0 : Int32)), (0, .ref p0), (1, .int p1), (2, .int p2)], [])) zq_299 zo_299 (by with_unfolding_all rfl) ?_
    refine zv_pick (lv' := [(0, .ref p0), (1, .int p1), (2, .int p2), (3, .int (0 : Int32)), (4, .int (0 : Int32))]) [0, 1, 2, 3, 4] rfl rfl ?_
    exact t_f_ColumnVaultLaw_areSets_24 zF _ _ _ _ _ _ _ _ hf
  · refine zv_brF (off := 7) (tt := 19) (r := []) zq_299 zo_299 hc rfl rfl rfl ?_
    refine zv_p (k := 5) (f' := (24, [(4, .int (0 : Int32)), (3, .int (1 : Int32)), (0, .ref p0), (1, .int p1), (2, .int p2)], [])) zq_299 zo_299 (by with_unfolding_all rfl) ?_
    refine zv_pick (lv' := [(0, .ref p0), (1, .int p1), (2, .int p2), (3, .int (1 : Int32)), (4, .int (0 : Int32))]) [0, 1, 2, 3, 4] rfl rfl ?_
    exact t_f_ColumnVaultLaw_areSets_24 zF _ _ _ _ _ _ _ _ hf
/-! ColumnVaultLaw.digest (LColumnVault;I)J -/
noncomputable def zI_301 : zd_T := [[(0, .aload_n 0, 1), (1, .iload_n 1, 1), (2, .iconst 1, 1), (3, .invokevirtual 147, 3), (6, .i2l, 1), (7, .lstore_n 2, 1), (8, .iconst 0, 1), (9, .istore 4, 2), (11, .iload 4, 2), (13, .aload_n 0, 1), (14, .iload_n 1, 1), (15, .iconst 1, 1), (16, .invokevirtual 147, 3), (19, .if_icmp .ge 24, 3), (22, .ldc2_w 182, 3), (25, .lload_n 2, 1), (26, .lmul, 1), (27, .aload_n 0, 1), (28, .iload_n 1, 1), (29, .iload 4, 2), (31, .invokevirtual 166, 3)], [(34, .i2l, 1), (35, .ladd, 1), (36, .lstore_n 2, 1), (37, .iinc 4 1, 3), (40, .goto (-29), 3), (43, .aload_n 0, 1), (44, .iload_n 1, 1), (45, .invokestatic 184, 3), (48, .astore 4, 2), (50, .aload 4, 2), (52, .arraylength, 1), (53, .istore 5, 2), (55, .iconst 0, 1), (56, .istore 6, 2), (58, .iload 6, 2), (60, .iload 5, 2), (62, .if_icmp .ge 57, 3)], [(65, .aload 4, 2), (67, .iload 6, 2), (69, .aaload, 1), (70, .astore 7, 2), (72, .aload 7, 2), (74, .astore 8, 2), (76, .aload 8, 2), (78, .arraylength, 1), (79, .istore 9, 2), (81, .iconst 0, 1), (82, .istore 10, 2), (84, .iload 10, 2), (86, .iload 9, 2), (88, .if_icmp .ge 25, 3), (91, .aload 8, 2), (93, .iload 10, 2), (95, .laload, 1)], [(96, .lstore 11, 2), (98, .ldc2_w 182, 3), (101, .lload_n 2, 1), (102, .lmul, 1), (103, .lload 11, 2), (105, .ladd, 1), (106, .lstore_n 2, 1), (107, .iinc 10 1, 3), (110, .goto (-26), 3), (113, .iinc 6 1, 3), (116, .goto (-58), 3), (119, .aload_n 0, 1), (120, .iload_n 1, 1), (121, .invokestatic 188, 3), (124, .astore 4, 2), (126, .aload 4, 2)], [(128, .arraylength, 1), (129, .istore 5, 2), (131, .iconst 0, 1), (132, .istore 6, 2), (134, .iload 6, 2), (136, .iload 5, 2), (138, .if_icmp .ge 26, 3), (141, .aload 4, 2), (143, .iload 6, 2), (145, .iaload, 1), (146, .istore 7, 2), (148, .ldc2_w 182, 3), (151, .lload_n 2, 1), (152, .lmul, 1), (153, .iload 7, 2), (155, .i2l, 1), (156, .ladd, 1), (157, .lstore_n 2, 1), (158, .iinc 6 1, 3)], [(161, .goto (-27), 3), (164, .aload_n 0, 1), (165, .iload_n 1, 1), (166, .invokestatic 192, 3), (169, .astore 4, 2), (171, .aload 4, 2), (173, .arraylength, 1), (174, .istore 5, 2), (176, .iconst 0, 1), (177, .istore 6, 2), (179, .iload 6, 2), (181, .iload 5, 2), (183, .if_icmp .ge 35, 3), (186, .aload 4, 2), (188, .iload 6, 2), (190, .baload, 1), (191, .istore 7, 2)], [(193, .ldc2_w 182, 3), (196, .lload_n 2, 1), (197, .lmul, 1), (198, .iload 7, 2), (200, .ifCond .eq 7, 3), (203, .lconst 1, 1), (204, .goto 6, 3), (207, .ldc2_w 196, 3), (210, .ladd, 1), (211, .lstore_n 2, 1), (212, .iinc 6 1, 3), (215, .goto (-36), 3), (218, .lload_n 2, 1), (219, .lreturn, 1)]]
theorem zo_301 : zd_of 301 = some zI_301 := rfl
set_option maxRecDepth 100000 in
theorem zq_301 : zt_m[301]? = some (⟨"ColumnVaultLaw", "digest", "(LColumnVault;I)J"⟩, method_15_code, 13, some (.long), [], 17, 2, 0, 1, 99999, 0) := rfl
set_option maxHeartbeats 1000000 in
def f_ColumnVaultLaw_digest_84 (k58 : Nat → Int32 → Int64 → Nat → Int32 → Int32 → zx_H → Option ((Int64 ⊕ Nat) × zx_H)) : Nat → Nat → Int32 → Int64 → Nat → Int32 → Int32 → Nat → Int32 → Int32 → zx_H → Option ((Int64 ⊕ Nat) × zx_H)
  | 0, _, _, _, _, _, _, _, _, _, _ => none
  | n + 1, p0, p1, p2, p3, p4, p5, p6, p7, p8, h =>
    if p7 ≤ p8 then
      k58 p0 p1 p2 p3 p4 (p5 + (1 : Int32)) h
    else
      zf_b (zf_ldJ p6 p8 h) fun v1 =>
      (f_ColumnVaultLaw_digest_84 k58 n) p0 p1 (((31 : Int64) * p2) + v1) p3 p4 p5 p6 p7 (p8 + (1 : Int32)) h
set_option maxHeartbeats 4000000 in
set_option maxRecDepth 400000 in
theorem t_f_ColumnVaultLaw_digest_84 {sc : (Nat × (Nat → Int32)) × Bool} {d : Nat} {k58 : Nat → Int32 → Int64 → Nat → Int32 → Int32 → zx_H → Option ((Int64 ⊕ Nat) × zx_H)} (hk58 : ∀ (a0 : Nat) (a1 : Int32) (a2 : Int64) (a3 : Nat) (a4 : Int32) (a5 : Int32) (h : zx_H) (r : (Int64 ⊕ Nat)) (h' : zx_H), k58 a0 a1 a2 a3 a4 a5 h = some (r, h') → zx_T sc (d + 6) 301 (58, [(0, .ref a0), (1, .int a1), (2, .long a2), (4, .ref a3), (5, .int a4), (6, .int a5)], []) h (zf_oJx r) h') : ∀ (n : Nat) (p0 : Nat) (p1 : Int32) (p2 : Int64) (p3 : Nat) (p4 : Int32) (p5 : Int32) (p6 : Nat) (p7 : Int32) (p8 : Int32) (h : zx_H) (r : (Int64 ⊕ Nat)) (h' : zx_H), f_ColumnVaultLaw_digest_84 k58 n p0 p1 p2 p3 p4 p5 p6 p7 p8 h = some (r, h') → zx_T sc (d + 6) 301 (84, [(0, .ref p0), (1, .int p1), (2, .long p2), (4, .ref p3), (5, .int p4), (6, .int p5), (8, .ref p6), (9, .int p7), (10, .int p8)], []) h (zf_oJx r) h' := by
  intro n
  induction n with
  | zero => intro p0 p1 p2 p3 p4 p5 p6 p7 p8 h r h' hf; cases hf
  | succ n ih =>
    intro p0 p1 p2 p3 p4 p5 p6 p7 p8 h r h' hf
    unfold f_ColumnVaultLaw_digest_84 at hf
    refine zv_p (k := 2) (f' := (88, [(0, .ref p0), (1, .int p1), (2, .long p2), (4, .ref p3), (5, .int p4), (6, .int p5), (8, .ref p6), (9, .int p7), (10, .int p8)], [.int p7, .int p8])) zq_301 zo_301 (by with_unfolding_all rfl) ?_
    replace hf := zf_ite hf
    obtain ⟨hc, hf⟩ | ⟨hc, hf⟩ := hf
    · refine zv_brT (off := 25) (tt := 113) (r := []) zq_301 zo_301 hc rfl rfl rfl ?_
      refine zv_p (k := 2) (f' := (58, [(6, .int (p5 + (1 : Int32))), (0, .ref p0), (1, .int p1), (2, .long p2), (4, .ref p3), (5, .int p4), (8, .ref p6), (9, .int p7), (10, .int p8)], [])) zq_301 zo_301 (by with_unfolding_all rfl) ?_
      refine zv_pick (lv' := [(0, .ref p0), (1, .int p1), (2, .long p2), (4, .ref p3), (5, .int p4), (6, .int (p5 + (1 : Int32)))]) [0, 1, 2, 4, 5, 6] rfl rfl ?_
      exact hk58 _ _ _ _ _ _ _ _ _ hf
    · refine zv_brF (off := 25) (tt := 113) (r := []) zq_301 zo_301 hc rfl rfl rfl ?_
      refine zv_p (k := 2) (f' := (95, [(0, .ref p0), (1, .int p1), (2, .long p2), (4, .ref p3), (5, .int p4), (6, .int p5), (8, .ref p6), (9, .int p7), (10, .int p8)], [.int p8, .ref p6])) zq_301 zo_301 (by with_unfolding_all rfl) ?_
      replace hf := zf_be hf
      obtain ⟨v1, hv, hf⟩ := hf
      refine zv_ldJ zq_301 zo_301 rfl hv ?_
      refine zv_p (k := 1) (f' := (98, [(11, .long v1), (0, .ref p0), (1, .int p1), (2, .long p2), (4, .ref p3), (5, .int p4), (6, .int p5), (8, .ref p6), (9, .int p7), (10, .int p8)], [])) zq_301 zo_301 (by with_unfolding_all rfl) ?_
      refine zv_lng zq_301 zo_301 rfl rfl ?_
      refine zv_p (k := 7) (f' := (84, [(10, .int (p8 + (1 : Int32))), (2, .long (((31 : Int64) * p2) + v1)), (11, .long v1), (0, .ref p0), (1, .int p1), (4, .ref p3), (5, .int p4), (6, .int p5), (8, .ref p6), (9, .int p7)], [])) zq_301 zo_301 (by with_unfolding_all rfl) ?_
      refine zv_pick (lv' := [(0, .ref p0), (1, .int p1), (2, .long (((31 : Int64) * p2) + v1)), (4, .ref p3), (5, .int p4), (6, .int p5), (8, .ref p6), (9, .int p7), (10, .int (p8 + (1 : Int32)))]) [0, 1, 2, 4, 5, 6, 8, 9, 10] rfl rfl ?_
      exact ih _ _ _ _ _ _ _ _ _ _ _ _ hf
set_option maxHeartbeats 1000000 in
def f_ColumnVaultLaw_digest_179 : Nat → Int64 → Nat → Int32 → Int32 → zx_H → Option ((Int64 ⊕ Nat) × zx_H)
  | 0, _, _, _, _, _ => none
  | n + 1, p0, p1, p2, p3, h =>
    if p2 ≤ p3 then
      some (.inl p0, h)
    else
      zf_b (zf_ldB p1 p3 h) fun v1 =>
      if v1 = 0 then
        (f_ColumnVaultLaw_digest_179 n) (((31 : Int64) * p0) + (2 : Int64)) p1 p2 (p3 + (1 : Int32)) h
      else
        (f_ColumnVaultLaw_digest_179 n) (((31 : Int64) * p0) + (1 : Int64)) p1 p2 (p3 + (1 : Int32)) h
set_option maxHeartbeats 4000000 in
set_option maxRecDepth 400000 in
theorem t_f_ColumnVaultLaw_digest_179 {sc : (Nat × (Nat → Int32)) × Bool} {d : Nat} : ∀ (n : Nat) (p0 : Int64) (p1 : Nat) (p2 : Int32) (p3 : Int32) (h : zx_H) (r : (Int64 ⊕ Nat)) (h' : zx_H), f_ColumnVaultLaw_digest_179 n p0 p1 p2 p3 h = some (r, h') → zx_T sc (d + 6) 301 (179, [(2, .long p0), (4, .ref p1), (5, .int p2), (6, .int p3)], []) h (zf_oJx r) h' := by
  intro n
  induction n with
  | zero => intro p0 p1 p2 p3 h r h' hf; cases hf
  | succ n ih =>
    intro p0 p1 p2 p3 h r h' hf
    unfold f_ColumnVaultLaw_digest_179 at hf
    refine zv_p (k := 2) (f' := (183, [(2, .long p0), (4, .ref p1), (5, .int p2), (6, .int p3)], [.int p2, .int p3])) zq_301 zo_301 (by with_unfolding_all rfl) ?_
    replace hf := zf_ite hf
    obtain ⟨hc, hf⟩ | ⟨hc, hf⟩ := hf
    · refine zv_brT (off := 35) (tt := 218) (r := []) zq_301 zo_301 hc rfl rfl rfl ?_
      refine zv_p (k := 1) (f' := (219, [(2, .long p0), (4, .ref p1), (5, .int p2), (6, .int p3)], [.long p0])) zq_301 zo_301 (by with_unfolding_all rfl) ?_
      cases hf
      exact zv_r zq_301 zo_301 rfl rfl rfl rfl rfl
    · refine zv_brF (off := 35) (tt := 218) (r := []) zq_301 zo_301 hc rfl rfl rfl ?_
      refine zv_p (k := 2) (f' := (190, [(2, .long p0), (4, .ref p1), (5, .int p2), (6, .int p3)], [.int p3, .ref p1])) zq_301 zo_301 (by with_unfolding_all rfl) ?_
      replace hf := zf_be hf
      obtain ⟨v1, hv, hf⟩ := hf
      refine zv_ldB zq_301 zo_301 rfl hv ?_
      refine zv_p (k := 1) (f' := (193, [(7, .int v1), (2, .long p0), (4, .ref p1), (5, .int p2), (6, .int p3)], [])) zq_301 zo_301 (by with_unfolding_all rfl) ?_
      refine zv_lng zq_301 zo_301 rfl rfl ?_
      refine zv_p (k := 3) (f' := (200, [(7, .int v1), (2, .long p0), (4, .ref p1), (5, .int p2), (6, .int p3)], [.int v1, .long ((31 : Int64) * p0)])) zq_301 zo_301 (by with_unfolding_all rfl) ?_
      replace hf := zf_ite hf
      obtain ⟨hc, hf⟩ | ⟨hc, hf⟩ := hf
      · refine zv_brT (off := 7) (tt := 207) (r := [.long ((31 : Int64) * p0)]) zq_301 zo_301 hc rfl rfl rfl ?_
        refine zv_lng zq_301 zo_301 rfl rfl ?_
        refine zv_p (k := 4) (f' := (179, [(6, .int (p3 + (1 : Int32))), (2, .long (((31 : Int64) * p0) + (2 : Int64))), (7, .int v1), (4, .ref p1), (5, .int p2)], [])) zq_301 zo_301 (by with_unfolding_all rfl) ?_
        refine zv_pick (lv' := [(2, .long (((31 : Int64) * p0) + (2 : Int64))), (4, .ref p1), (5, .int p2), (6, .int (p3 + (1 : Int32)))]) [2, 4, 5, 6] rfl rfl ?_
        exact ih _ _ _ _ _ _ _ hf
      · refine zv_brF (off := 7) (tt := 207) (r := [.long ((31 : Int64) * p0)]) zq_301 zo_301 hc rfl rfl rfl ?_
        refine zv_p (k := 6) (f' := (179, [(6, .int (p3 + (1 : Int32))), (2, .long (((31 : Int64) * p0) + (1 : Int64))), (7, .int v1), (4, .ref p1), (5, .int p2)], [])) zq_301 zo_301 (by with_unfolding_all rfl) ?_
        refine zv_pick (lv' := [(2, .long (((31 : Int64) * p0) + (1 : Int64))), (4, .ref p1), (5, .int p2), (6, .int (p3 + (1 : Int32)))]) [2, 4, 5, 6] rfl rfl ?_
        exact ih _ _ _ _ _ _ _ hf
