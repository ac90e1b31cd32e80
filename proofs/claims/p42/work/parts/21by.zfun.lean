set_option maxHeartbeats 1000000 in
def f_ColumnVault_joinErrors (p0 : Nat) (p1 : Int32) (p2 : Int32) (p3 : Int32) (p4 : Int32) (h : zx_H) : Option ((Int32 ⊕ Nat) × zx_H) :=
  zf_b (zf_is 12 p0 h) fun _ =>
  zf_b3 (f_ColumnVault_sheetWith p0 p1 p2 h) fun v1 h2 =>
  zf_b (zf_is 12 p0 h2) fun _ =>
  zf_b3 (f_ColumnVault_sheetWith p0 p3 p4 h2) fun v4 h5 =>
  zf_b (zf_is 10 v1 h5) fun _ =>
  zf_b2 (f_Sheet_kindOf v1 p2 h5) fun v7 h8 =>
  zf_b (zf_is 10 v4 h8) fun _ =>
  zf_b2 (f_Sheet_kindOf v4 p4 h8) fun v9 h10 =>
  zf_b3 (f_ColumnVault_requireSameKind v7 v9 h10) fun _ h12 =>
  zf_b2 (zf_new 7 h12) fun q14 h15 =>
  zf_b2 (f_JoinWays_init q14 v1 p2 v4 p4 h15) fun _ h17 =>
  zf_b (zf_is 7 q14 h17) fun _ =>
  zf_b2 (f_JoinWays_pairsNotToldByAll q14 h17) fun v18 h19 =>
  some (.inl v18, h19)
set_option maxHeartbeats 4000000 in
set_option maxRecDepth 400000 in
theorem t_f_ColumnVault_joinErrors {sc : (Nat × (Nat → Int32)) × Bool} {d : Nat} (p0 : Nat) (p1 : Int32) (p2 : Int32) (p3 : Int32) (p4 : Int32) (h : zx_H) (r : (Int32 ⊕ Nat)) (h' : zx_H) (hf : f_ColumnVault_joinErrors p0 p1 p2 p3 p4 h = some (r, h')) : zx_T sc (d + 5) 285 (0, [(0, .ref p0), (1, .int p1), (2, .int p2), (3, .int p3), (4, .int p4)], []) h (zf_oIx r) h' := by
  unfold f_ColumnVault_joinErrors at hf
  refine zv_p (k := 3) (f' := (3, [(0, .ref p0), (1, .int p1), (2, .int p2), (3, .int p3), (4, .int p4)], [.int p2, .int p1, .ref p0])) zq_285 zo_285 (by with_unfolding_all rfl) ?_
  replace hf := zf_be hf
  obtain ⟨_, ho, hf⟩ := hf
  replace hf := zf_b3e hf
  obtain ⟨v1, h2, hv, hf⟩ | ⟨E3, h2, hv, hf⟩ := hf
  rotate_left
  · cases hf; exact zv_cx zq_285 zo_285 rfl rfl rfl rfl rfl (zv_cv rfl rfl rfl (zf_ise ho) rfl) (t_f_ColumnVault_sheetWith _ _ _ _ _ _ hv) rfl
  refine zv_c zq_285 zo_285 rfl rfl rfl rfl rfl (zv_cv rfl rfl rfl (zf_ise ho) rfl) (t_f_ColumnVault_sheetWith _ _ _ _ _ _ hv) ?_
  refine zv_p (k := 4) (f' := (12, [(5, .ref v1), (0, .ref p0), (1, .int p1), (2, .int p2), (3, .int p3), (4, .int p4)], [.int p4, .int p3, .ref p0])) zq_285 zo_285 (by with_unfolding_all rfl) ?_
  replace hf := zf_be hf
  obtain ⟨_, ho, hf⟩ := hf
  replace hf := zf_b3e hf
  obtain ⟨v4, h5, hv, hf⟩ | ⟨E6, h5, hv, hf⟩ := hf
  rotate_left
  · cases hf; exact zv_cx zq_285 zo_285 rfl rfl rfl rfl rfl (zv_cv rfl rfl rfl (zf_ise ho) rfl) (t_f_ColumnVault_sheetWith _ _ _ _ _ _ hv) rfl
  refine zv_c zq_285 zo_285 rfl rfl rfl rfl rfl (zv_cv rfl rfl rfl (zf_ise ho) rfl) (t_f_ColumnVault_sheetWith _ _ _ _ _ _ hv) ?_
  refine zv_p (k := 3) (f' := (20, [(6, .ref v4), (5, .ref v1), (0, .ref p0), (1, .int p1), (2, .int p2), (3, .int p3), (4, .int p4)], [.int p2, .ref v1])) zq_285 zo_285 (by with_unfolding_all rfl) ?_
  replace hf := zf_be hf
  obtain ⟨_, ho, hf⟩ := hf
  replace hf := zf_b2e hf
  obtain ⟨v7, h8, hv, hf⟩ := hf
  refine zv_c zq_285 zo_285 rfl rfl rfl rfl rfl (zv_cv rfl rfl rfl (zf_ise ho) rfl) (t_f_Sheet_kindOf _ _ _ _ _ hv) ?_
  refine zv_p (k := 2) (f' := (27, [(6, .ref v4), (5, .ref v1), (0, .ref p0), (1, .int p1), (2, .int p2), (3, .int p3), (4, .int p4)], [.int p4, .ref v4, .int v7])) zq_285 zo_285 (by with_unfolding_all rfl) ?_
  replace hf := zf_be hf
  obtain ⟨_, ho, hf⟩ := hf
  replace hf := zf_b2e hf
  obtain ⟨v9, h10, hv, hf⟩ := hf
  refine zv_c zq_285 zo_285 rfl rfl rfl rfl rfl (zv_cv rfl rfl rfl (zf_ise ho) rfl) (t_f_Sheet_kindOf _ _ _ _ _ hv) ?_
  replace hf := zf_b3e hf
  obtain ⟨v11, h12, hv, hf⟩ | ⟨E13, h12, hv, hf⟩ := hf
  rotate_left
  · cases hf; exact zv_cx zq_285 zo_285 rfl rfl rfl rfl rfl rfl (t_f_ColumnVault_requireSameKind _ _ _ _ _ hv) rfl
  refine zv_c zq_285 zo_285 rfl rfl rfl rfl rfl rfl (t_f_ColumnVault_requireSameKind _ _ _ _ _ hv) ?_
  replace hf := zf_b2e hf
  obtain ⟨q14, h15, hv, hf⟩ := hf
  refine zv_new zq_285 zo_285 rfl rfl rfl hv ?_
  refine zv_p (k := 5) (f' := (44, [(6, .ref v4), (5, .ref v1), (0, .ref p0), (1, .int p1), (2, .int p2), (3, .int p3), (4, .int p4)], [.int p4, .ref v4, .int p2, .ref v1, .ref q14, .ref q14])) zq_285 zo_285 (by with_unfolding_all rfl) ?_
  replace hf := zf_b2e hf
  obtain ⟨v16, h17, hv, hf⟩ := hf
  refine zv_c zq_285 zo_285 rfl rfl rfl rfl rfl rfl (t_f_JoinWays_init _ _ _ _ _ _ _ _ hv) ?_
  replace hf := zf_be hf
  obtain ⟨_, ho, hf⟩ := hf
  replace hf := zf_b2e hf
  obtain ⟨v18, h19, hv, hf⟩ := hf
  refine zv_c zq_285 zo_285 rfl rfl rfl rfl rfl (zv_cv rfl rfl rfl (zf_ise ho) rfl) (t_f_JoinWays_pairsNotToldByAll _ _ _ _ hv) ?_
  cases hf
  exact zv_rn zq_285 zo_285 rfl rfl
/-! ColumnVaultLaw.isJoined (LColumnVault;arr III)Z -/
noncomputable def zI_284 : zd_T := [[(0, .aload_n 1, 1), (1, .aload_n 0, 1), (2, .iload_n 2, 1), (3, .iconst 1, 1), (4, .invokevirtual 147, 3), (7, .invokestatic 16, 3), (10, .istore 4, 2), (12, .aload_n 1, 1), (13, .aload_n 0, 1), (14, .iload_n 3, 1), (15, .iconst 1, 1), (16, .invokevirtual 147, 3), (19, .invokestatic 16, 3), (22, .istore 5, 2), (24, .aload_n 1, 1), (25, .iconst 3, 1), (26, .invokestatic 16, 3), (29, .istore 6, 2), (31, .aload_n 0, 1)], [(32, .iload_n 2, 1), (33, .iload 4, 2), (35, .invokevirtual 166, 3), (38, .aload_n 0, 1), (39, .iload_n 3, 1), (40, .iload 5, 2), (42, .invokevirtual 166, 3), (45, .if_icmp .eq 33, 3), (48, .iload_n 2, 1), (49, .iload_n 3, 1), (50, .if_icmp .ne 22, 3), (53, .aload_n 0, 1), (54, .bipush 9, 2), (56, .iload_n 2, 1), (57, .iload 4, 2), (59, .iload 5, 2), (61, .i2l, 1), (62, .invokestatic 278, 3)], [(65, .ldc2_w 160, 3), (68, .lcmp, 1), (69, .ifCond .ne 7, 3), (72, .iconst 1, 1), (73, .goto 4, 3), (76, .iconst 0, 1), (77, .ireturn, 1), (78, .aload_n 0, 1), (79, .iload_n 2, 1), (80, .iload 4, 2), (82, .iload_n 3, 1), (83, .iload 5, 2), (85, .iload 6, 2), (87, .invokevirtual 107, 3), (90, .istore 7, 2), (92, .iconst 0, 1), (93, .istore 8, 2), (95, .iconst 0, 1)], [(96, .istore 9, 2), (98, .iload 9, 2), (100, .aload_n 0, 1), (101, .iload_n 2, 1), (102, .iconst 0, 1), (103, .invokevirtual 147, 3), (106, .if_icmp .ge 183, 3), (109, .aload_n 0, 1), (110, .iload_n 2, 1), (111, .iload 9, 2), (113, .invokevirtual 178, 3), (116, .ifCond .ne 6, 3), (119, .goto 164, 3), (122, .aload_n 0, 1), (123, .iload_n 2, 1), (124, .iload 9, 2), (126, .iload 4, 2)], [(128, .invokevirtual 91, 3), (131, .lstore 10, 2), (133, .iconst 1, 1), (134, .istore 12, 2), (136, .iconst 0, 1), (137, .istore 13, 2), (139, .iload 13, 2), (141, .aload_n 0, 1), (142, .iload_n 3, 1), (143, .iconst 0, 1), (144, .invokevirtual 147, 3), (147, .if_icmp .ge 91, 3), (150, .aload_n 0, 1), (151, .iload_n 3, 1), (152, .iload 13, 2), (154, .invokevirtual 178, 3), (157, .ifCond .eq 75, 3)], [(160, .lload 10, 2), (162, .ldc2_w 204, 3), (165, .lcmp, 1), (166, .ifCond .eq 66, 3), (169, .aload_n 0, 1), (170, .iload_n 3, 1), (171, .iload 13, 2), (173, .iload 5, 2), (175, .invokevirtual 91, 3), (178, .lload 10, 2), (180, .lcmp, 1), (181, .ifCond .eq 6, 3), (184, .goto 48, 3), (187, .iconst 0, 1), (188, .istore 12, 2), (190, .iload 6, 2)], [(192, .iconst 2, 1), (193, .if_icmp .ge 39, 3), (196, .iload 8, 2), (198, .iload 7, 2), (200, .if_icmp .ge 30, 3), (203, .aload_n 0, 1), (204, .iload 8, 2), (206, .iconst 0, 1), (207, .invokevirtual 110, 3), (210, .iload 9, 2), (212, .if_icmp .ne 18, 3), (215, .aload_n 0, 1), (216, .iload 8, 2), (218, .iinc 8 1, 3), (221, .iconst 1, 1), (222, .invokevirtual 110, 3)], [(225, .iload 13, 2), (227, .if_icmp .eq 5, 3), (230, .iconst 0, 1), (231, .ireturn, 1), (232, .iinc 13 1, 3), (235, .goto (-96), 3), (238, .iload 12, 2), (240, .ifCond .eq 43, 3), (243, .iload 6, 2), (245, .ifCond .le 38, 3), (248, .iload 8, 2), (250, .iload 7, 2), (252, .if_icmp .ge 29, 3), (255, .aload_n 0, 1)], [(256, .iload 8, 2), (258, .iconst 0, 1), (259, .invokevirtual 110, 3), (262, .iload 9, 2), (264, .if_icmp .ne 17, 3), (267, .aload_n 0, 1), (268, .iload 8, 2), (270, .iinc 8 1, 3), (273, .iconst 1, 1), (274, .invokevirtual 110, 3), (277, .iconst (-1), 1), (278, .if_icmp .eq 5, 3), (281, .iconst 0, 1), (282, .ireturn, 1), (283, .iinc 9 1, 3), (286, .goto (-188), 3)], [(289, .iload 8, 2), (291, .iload 7, 2), (293, .if_icmp .ne 37, 3), (296, .aload_n 0, 1), (297, .bipush 10, 2), (299, .iload 7, 2), (301, .iconst 0, 1), (302, .lconst 0, 1), (303, .invokestatic 278, 3), (306, .ldc2_w 152, 3), (309, .lcmp, 1), (310, .ifCond .ne 20, 3), (313, .aload_n 0, 1), (314, .iload_n 2, 1), (315, .iload 4, 2), (317, .iload_n 3, 1), (318, .iload 5, 2)], [(320, .invokevirtual 365, 3), (323, .ifCond .ne 7, 3), (326, .iconst 1, 1), (327, .goto 4, 3), (330, .iconst 0, 1), (331, .ireturn, 1)]]
theorem zo_284 : zd_of 284 = some zI_284 := rfl
set_option maxRecDepth 100000 in
theorem zq_284 : zt_m[284]? = some (⟨"ColumnVaultLaw", "isJoined", "(LColumnVault;[III)Z"⟩, method_25_code, 14, some (.boolean), [], 17, 4, 0, 1, 99999, 0) := rfl
set_option maxHeartbeats 1000000 in
def f_ColumnVaultLaw_isJoined_139 (k98 : Nat → Int32 → Int32 → Int32 → Int32 → Int32 → Int32 → Int32 → Int32 → zx_H → Option ((Int32 ⊕ Nat) × zx_H)) : Nat → Nat → Int32 → Int32 → Int32 → Int32 → Int32 → Int32 → Int32 → Int32 → Int64 → Int32 → Int32 → zx_H → Option ((Int32 ⊕ Nat) × zx_H)
  | 0, _, _, _, _, _, _, _, _, _, _, _, _, _ => none
  | n + 1, p0, p1, p2, p3, p4, p5, p6, p7, p8, p9, p10, p11, h =>
    zf_b (zf_is 12 p0 h) fun _ =>
    zf_b3 (f_ColumnVault_size p0 p2 (0 : Int32) h) fun v1 h2 =>
    if v1 ≤ p11 then
      if p10 = 0 then
        k98 p0 p1 p2 p3 p4 p5 p6 p7 (p8 + (1 : Int32)) h2
      else
        if p5 ≤ 0 then
          k98 p0 p1 p2 p3 p4 p5 p6 p7 (p8 + (1 : Int32)) h2
        else
          if p6 ≤ p7 then
            some (.inl (0 : Int32), h2)
          else
            zf_b (zf_is 12 p0 h2) fun _ =>
            zf_b3 (f_ColumnVault_pairAt p0 p7 (0 : Int32) h2) fun v4 h5 =>
            if ¬ v4 = p8 then
              some (.inl (0 : Int32), h5)
            else
              zf_b (zf_is 12 p0 h5) fun _ =>
              zf_b3 (f_ColumnVault_pairAt p0 p7 (1 : Int32) h5) fun v7 h8 =>
              if v7 = (-1 : Int32) then
                k98 p0 p1 p2 p3 p4 p5 p6 (p7 + (1 : Int32)) (p8 + (1 : Int32)) h8
              else
                some (.inl (0 : Int32), h8)
    else
      zf_b (zf_is 12 p0 h2) fun _ =>
      zf_b3 (f_ColumnVault_isChosen p0 p2 p11 h2) fun v10 h11 =>
      if v10 = 0 then
        (f_ColumnVaultLaw_isJoined_139 k98 n) p0 p1 p2 p3 p4 p5 p6 p7 p8 p9 p10 (p11 + (1 : Int32)) h11
      else
        if p9 = (-9000000000 : Int64) then
          (f_ColumnVaultLaw_isJoined_139 k98 n) p0 p1 p2 p3 p4 p5 p6 p7 p8 p9 p10 (p11 + (1 : Int32)) h11
        else
          zf_b (zf_is 12 p0 h11) fun _ =>
          zf_b3 (f_ColumnVault_get p0 p2 p11 p4 h11) fun v13 h14 =>
          if v13 = p9 then
            if (2 : Int32) ≤ p5 then
              (f_ColumnVaultLaw_isJoined_139 k98 n) p0 p1 p2 p3 p4 p5 p6 p7 p8 p9 (0 : Int32) (p11 + (1 : Int32)) h14
            else
              if p6 ≤ p7 then
                some (.inl (0 : Int32), h14)
              else
                zf_b (zf_is 12 p0 h14) fun _ =>
                zf_b3 (f_ColumnVault_pairAt p0 p7 (0 : Int32) h14) fun v16 h17 =>
                if ¬ v16 = p8 then
                  some (.inl (0 : Int32), h17)
                else
                  zf_b (zf_is 12 p0 h17) fun _ =>
                  zf_b3 (f_ColumnVault_pairAt p0 p7 (1 : Int32) h17) fun v19 h20 =>
                  if v19 = p11 then
                    (f_ColumnVaultLaw_isJoined_139 k98 n) p0 p1 p2 p3 p4 p5 p6 (p7 + (1 : Int32)) p8 p9 (0 : Int32) (p11 + (1 : Int32)) h20
                  else
                    some (.inl (0 : Int32), h20)
          else
            (f_ColumnVaultLaw_isJoined_139 k98 n) p0 p1 p2 p3 p4 p5 p6 p7 p8 p9 p10 (p11 + (1 : Int32)) h14
set_option maxHeartbeats 4000000 in
set_option maxRecDepth 400000 in
theorem t_f_ColumnVaultLaw_isJoined_139 {sc : (Nat × (Nat → Int32)) × Bool} {d : Nat} {k98 : Nat → Int32 → Int32 → Int32 → Int32 → Int32 → Int32 → Int32 → Int32 → zx_H → Option ((Int32 ⊕ Nat) × zx_H)} (hk98 : ∀ (a0 : Nat) (a1 : Int32) (a2 : Int32) (a3 : Int32) (a4 : Int32) (a5 : Int32) (a6 : Int32) (a7 : Int32) (a8 : Int32) (h : zx_H) (r : (Int32 ⊕ Nat)) (h' : zx_H), k98 a0 a1 a2 a3 a4 a5 a6 a7 a8 h = some (r, h') → zx_T sc (d + 125) 284 (98, [(0, .ref a0), (2, .int a1), (3, .int a2), (4, .int a3), (5, .int a4), (6, .int a5), (7, .int a6), (8, .int a7), (9, .int a8)], []) h (zf_oIx r) h') : ∀ (n : Nat) (p0 : Nat) (p1 : Int32) (p2 : Int32) (p3 : Int32) (p4 : Int32) (p5 : Int32) (p6 : Int32) (p7 : Int32) (p8 : Int32) (p9 : Int64) (p10 : Int32) (p11 : Int32) (h : zx_H) (r : (Int32 ⊕ Nat)) (h' : zx_H), f_ColumnVaultLaw_isJoined_139 k98 n p0 p1 p2 p3 p4 p5 p6 p7 p8 p9 p10 p11 h = some (r, h') → zx_T sc (d + 125) 284 (139, [(0, .ref p0), (2, .int p1), (3, .int p2), (4, .int p3), (5, .int p4), (6, .int p5), (7, .int p6), (8, .int p7), (9, .int p8), (10, .long p9), (12, .int p10), (13, .int p11)], []) h (zf_oIx r) h' := by
  intro n
  induction n with
  | zero => intro p0 p1 p2 p3 p4 p5 p6 p7 p8 p9 p10 p11 h r h' hf; cases hf
  | succ n ih =>
    intro p0 p1 p2 p3 p4 p5 p6 p7 p8 p9 p10 p11 h r h' hf
    unfold f_ColumnVaultLaw_isJoined_139 at hf
    refine zv_p (k := 4) (f' := (144, [(0, .ref p0), (2, .int p1), (3, .int p2), (4, .int p3), (5, .int p4), (6, .int p5), (7, .int p6), (8, .int p7), (9, .int p8), (10, .long p9), (12, .int p10), (13, .int p11)], [.int (0 : Int32), .int p2, .ref p0, .int p11])) zq_284 zo_284 (by with_unfolding_all rfl) ?_
    replace hf := zf_be hf
    obtain ⟨_, ho, hf⟩ := hf
    replace hf := zf_b3e hf
    obtain ⟨v1, h2, hv, hf⟩ | ⟨E3, h2, hv, hf⟩ := hf
    rotate_left
    · cases hf; exact zv_cx zq_284 zo_284 rfl rfl rfl rfl rfl (zv_cv rfl rfl rfl (zf_ise ho) rfl) (t_f_ColumnVault_size _ _ _ _ _ _ hv) rfl
    refine zv_c zq_284 zo_284 rfl rfl rfl rfl rfl (zv_cv rfl rfl rfl (zf_ise ho) rfl) (t_f_ColumnVault_size _ _ _ _ _ _ hv) ?_
    replace hf := zf_ite hf
    obtain ⟨hc, hf⟩ | ⟨hc, hf⟩ := hf
    · refine zv_brT (off := 91) (tt := 238) (r := []) zq_284 zo_284 hc rfl rfl rfl ?_
      refine zv_p (k := 1) (f' := (240, [(0, .ref p0), (2, .int p1), (3, .int p2), (4, .int p3), (5, .int p4), (6, .int p5), (7, .int p6), (8, .int p7), (9, .int p8), (10, .long p9), (12, .int p10), (13, .int p11)], [.int p10])) zq_284 zo_284 (by with_unfolding_all rfl) ?_
      replace hf := zf_ite hf
      obtain ⟨hc, hf⟩ | ⟨hc, hf⟩ := hf
      · refine zv_brT (off := 43) (tt := 283) (r := []) zq_284 zo_284 hc rfl rfl rfl ?_
        refine zv_p (k := 2) (f' := (98, [(9, .int (p8 + (1 : Int32))), (0, .ref p0), (2, .int p1), (3, .int p2), (4, .int p3), (5, .int p4), (6, .int p5), (7, .int p6), (8, .int p7), (10, .long p9), (12, .int p10), (13, .int p11)], [])) zq_284 zo_284 (by with_unfolding_all rfl) ?_
        refine zv_pick (lv' := [(0, .ref p0), (2, .int p1), (3, .int p2), (4, .int p3), (5, .int p4), (6, .int p5), (7, .int p6), (8, .int p7), (9, .int (p8 + (1 : Int32)))]) [0, 2, 3, 4, 5, 6, 7, 8, 9] rfl rfl ?_
        exact hk98 _ _ _ _ _ _ _ _ _ _ _ _ hf
      · refine zv_brF (off := 43) (tt := 283) (r := []) zq_284 zo_284 hc rfl rfl rfl ?_
        refine zv_p (k := 1) (f' := (245, [(0, .ref p0), (2, .int p1), (3, .int p2), (4, .int p3), (5, .int p4), (6, .int p5), (7, .int p6), (8, .int p7), (9, .int p8), (10, .long p9), (12, .int p10), (13, .int p11)], [.int p5])) zq_284 zo_284 (by with_unfolding_all rfl) ?_
        replace hf := zf_ite hf
        obtain ⟨hc, hf⟩ | ⟨hc, hf⟩ := hf
        · refine zv_brT (off := 38) (tt := 283) (r := []) zq_284 zo_284 hc rfl rfl rfl ?_
          refine zv_p (k := 2) (f' := (98, [(9, .int (p8 + (1 : Int32))), (0, .ref p0), (2, .int p1), (3, .int p2), (4, .int p3), (5, .int p4), (6, .int p5), (7, .int p6), (8, .int p7), (10, .long p9), (12, .int p10), (13, .int p11)], [])) zq_284 zo_284 (by with_unfolding_all rfl) ?_
          refine zv_pick (lv' := [(0, .ref p0), (2, .int p1), (3, .int p2), (4, .int p3), (5, .int p4), (6, .int p5), (7, .int p6), (8, .int p7), (9, .int (p8 + (1 : Int32)))]) [0, 2, 3, 4, 5, 6, 7, 8, 9] rfl rfl ?_
          exact hk98 _ _ _ _ _ _ _ _ _ _ _ _ hf
        · refine zv_brF (off := 38) (tt := 283) (r := []) zq_284 zo_284 hc rfl rfl rfl ?_
          refine zv_p (k := 2) (f' := (252, [(0, .ref p0), (2, .int p1), (3, .int p2), (4, .int p3), (5, .int p4), (6, .int p5), (7, .int p6), (8, .int p7), (9, .int p8), (10, .long p9), (12, .int p10), (13, .int p11)], [.int p6, .int p7])) zq_284 zo_284 (by with_unfolding_all rfl) ?_
          replace hf := zf_ite hf
          obtain ⟨hc, hf⟩ | ⟨hc, hf⟩ := hf
          · refine zv_brT (off := 29) (tt := 281) (r := []) zq_284 zo_284 hc rfl rfl rfl ?_
            refine zv_p (k := 1) (f' := (282, [(0, .ref p0), (2, .int p1), (3, .int p2), (4, .int p3), (5, .int p4), (6, .int p5), (7, .int p6), (8, .int p7), (9, .int p8), (10, .long p9), (12, .int p10), (13, .int p11)], [.int (0 : Int32)])) zq_284 zo_284 (by with_unfolding_all rfl) ?_
            cases hf
            exact zv_rn zq_284 zo_284 rfl rfl
          · refine zv_brF (off := 29) (tt := 281) (r := []) zq_284 zo_284 hc rfl rfl rfl ?_
            refine zv_p (k := 3) (f' := (259, [(0, .ref p0), (2, .int p1), (3, .int p2), (4, .int p3), (5, .int p4), (6, .int p5), (7, .int p6), (8, .int p7), (9, .int p8), (10, .long p9), (12, .int p10), (13, .int p11)], [.int (0 : Int32), .int p7, .ref p0])) zq_284 zo_284 (by with_unfolding_all rfl) ?_
            replace hf := zf_be hf
            obtain ⟨_, ho, hf⟩ := hf
            replace hf := zf_b3e hf
            obtain ⟨v4, h5, hv, hf⟩ | ⟨E6, h5, hv, hf⟩ := hf
            rotate_left
            · cases hf; exact zv_cx zq_284 zo_284 rfl rfl rfl rfl rfl (zv_cv rfl rfl rfl (zf_ise ho) rfl) (t_f_ColumnVault_pairAt _ _ _ _ _ _ hv) rfl
            refine zv_c zq_284 zo_284 rfl rfl rfl rfl rfl (zv_cv rfl rfl rfl (zf_ise ho) rfl) (t_f_ColumnVault_pairAt _ _ _ _ _ _ hv) ?_
            refine zv_p (k := 1) (f' := (264, [(0, .ref p0), (2, .int p1), (3, .int p2), (4, .int p3), (5, .int p4), (6, .int p5), (7, .int p6), (8, .int p7), (9, .int p8), (10, .long p9), (12, .int p10), (13, .int p11)], [.int p8, .int v4])) zq_284 zo_284 (by with_unfolding_all rfl) ?_
            replace hf := zf_ite hf
            obtain ⟨hc, hf⟩ | ⟨hc, hf⟩ := hf
            · refine zv_brT (off := 17) (tt := 281) (r := []) zq_284 zo_284 hc rfl rfl rfl ?_
              refine zv_p (k := 1) (f' := (282, [(0, .ref p0), (2, .int p1), (3, .int p2), (4, .int p3), (5, .int p4), (6, .int p5), (7, .int p6), (8, .int p7), (9, .int p8), (10, .long p9), (12, .int p10), (13, .int p11)], [.int (0 : Int32)])) zq_284 zo_284 (by with_unfolding_all rfl) ?_
              cases hf
              exact zv_rn zq_284 zo_284 rfl rfl
            · refine zv_brF (off := 17) (tt := 281) (r := []) zq_284 zo_284 hc rfl rfl rfl ?_
              refine zv_p (k := 4) (f' := (274, [(8, .int (p7 + (1 : Int32))), (0, .ref p0), (2, .int p1), (3, .int p2), (4, .int p3), (5, .int p4), (6, .int p5), (7, .int p6), (9, .int p8), (10, .long p9), (12, .int p10), (13, .int p11)], [.int (1 : Int32), .int p7, .ref p0])) zq_284 zo_284 (by with_unfolding_all rfl) ?_
              replace hf := zf_be hf
              obtain ⟨_, ho, hf⟩ := hf
              replace hf := zf_b3e hf
              obtain ⟨v7, h8, hv, hf⟩ | ⟨E9, h8, hv, hf⟩ := hf
              rotate_left
              · cases hf; exact zv_cx zq_284 zo_284 rfl rfl rfl rfl rfl (zv_cv rfl rfl rfl (zf_ise ho) rfl) (t_f_ColumnVault_pairAt _ _ _ _ _ _ hv) rfl
              refine zv_c zq_284 zo_284 rfl rfl rfl rfl rfl (zv_cv rfl rfl rfl (zf_ise ho) rfl) (t_f_ColumnVault_pairAt _ _ _ _ _ _ hv) ?_
              refine zv_p (k := 1) (f' := (278, [(8, .int (p7 + (1 : Int32))), (0, .ref p0), (2, .int p1), (3, .int p2), (4, .int p3), (5, .int p4), (6, .int p5), (7, .int p6), (9, .int p8), (10, .long p9), (12, .int p10), (13, .int p11)], [.int (-1 : Int32), .int v7])) zq_284 zo_284 (by with_unfolding_all rfl) ?_
              replace hf := zf_ite hf
              obtain ⟨hc, hf⟩ | ⟨hc, hf⟩ := hf
              · refine zv_brT (off := 5) (tt := 283) (r := []) zq_284 zo_284 hc rfl rfl rfl ?_
                refine zv_p (k := 2) (f' := (98, [(9, .int (p8 + (1 : Int32))), (8, .int (p7 + (1 : Int32))), (0, .ref p0), (2, .int p1), (3, .int p2), (4, .int p3), (5, .int p4), (6, .int p5), (7, .int p6), (10, .long p9), (12, .int p10), (13, .int p11)], [])) zq_284 zo_284 (by with_unfolding_all rfl) ?_
                refine zv_pick (lv' := [(0, .ref p0), (2, .int p1), (3, .int p2), (4, .int p3), (5, .int p4), (6, .int p5), (7, .int p6), (8, .int (p7 + (1 : Int32))), (9, .int (p8 + (1 : Int32)))]) [0, 2, 3, 4, 5, 6, 7, 8, 9] rfl rfl ?_
                exact hk98 _ _ _ _ _ _ _ _ _ _ _ _ hf
              · refine zv_brF (off := 5) (tt := 283) (r := []) zq_284 zo_284 hc rfl rfl rfl ?_
                refine zv_p (k := 1) (f' := (282, [(8, .int (p7 + (1 : Int32))), (0, .ref p0), (2, .int p1), (3, .int p2), (4, .int p3), (5, .int p4), (6, .int p5), (7, .int p6), (9, .int p8), (10, .long p9), (12, .int p10), (13, .int p11)], [.int (0 : Int32)])) zq_284 zo_284 (by with_unfolding_all rfl) ?_
                cases hf
                exact zv_rn zq_284 zo_284 rfl rfl
    · refine zv_brF (off := 91) (tt := 238) (r := []) zq_284 zo_284 hc rfl rfl rfl ?_
      refine zv_p (k := 3) (f' := (154, [(0, .ref p0), (2, .int p1), (3, .int p2), (4, .int p3), (5, .int p4), (6, .int p5), (7, .int p6), (8, .int p7), (9, .int p8), (10, .long p9), (12, .int p10), (13, .int p11)], [.int p11, .int p2, .ref p0])) zq_284 zo_284 (by with_unfolding_all rfl) ?_
      replace hf := zf_be hf
      obtain ⟨_, ho, hf⟩ := hf
      replace hf := zf_b3e hf
      obtain ⟨v10, h11, hv, hf⟩ | ⟨E12, h11, hv, hf⟩ := hf
      rotate_left
      · cases hf; exact zv_cx zq_284 zo_284 rfl rfl rfl rfl rfl (zv_cv rfl rfl rfl (zf_ise ho) rfl) (t_f_ColumnVault_isChosen _ _ _ _ _ _ hv) rfl
      refine zv_c zq_284 zo_284 rfl rfl rfl rfl rfl (zv_cv rfl rfl rfl (zf_ise ho) rfl) (t_f_ColumnVault_isChosen _ _ _ _ _ _ hv) ?_
      replace hf := zf_ite hf
      obtain ⟨hc, hf⟩ | ⟨hc, hf⟩ := hf
      · refine zv_brT (off := 75) (tt := 232) (r := []) zq_284 zo_284 hc rfl rfl rfl ?_
        refine zv_p (k := 2) (f' := (139, [(13, .int (p11 + (1 : Int32))), (0, .ref p0), (2, .int p1), (3, .int p2), (4, .int p3), (5, .int p4), (6, .int p5), (7, .int p6), (8, .int p7), (9, .int p8), (10, .long p9), (12, .int p10)], [])) zq_284 zo_284 (by with_unfolding_all rfl) ?_
        refine zv_pick (lv' := [(0, .ref p0), (2, .int p1), (3, .int p2), (4, .int p3), (5, .int p4), (6, .int p5), (7, .int p6), (8, .int p7), (9, .int p8), (10, .long p9), (12, .int p10), (13, .int (p11 + (1 : Int32)))]) [0, 2, 3, 4, 5, 6, 7, 8, 9, 10, 12, 13] rfl rfl ?_
        exact ih _ _ _ _ _ _ _ _ _ _ _ _ _ _ _ hf
      · refine zv_brF (off := 75) (tt := 232) (r := []) zq_284 zo_284 hc rfl rfl rfl ?_
        refine zv_p (k := 1) (f' := (162, [(0, .ref p0), (2, .int p1), (3, .int p2), (4, .int p3), (5, .int p4), (6, .int p5), (7, .int p6), (8, .int p7), (9, .int p8), (10, .long p9), (12, .int p10), (13, .int p11)], [.long p9])) zq_284 zo_284 (by with_unfolding_all rfl) ?_
        refine zv_lng zq_284 zo_284 rfl rfl ?_
        refine zv_p (k := 1) (f' := (166, [(0, .ref p0), (2, .int p1), (3, .int p2), (4, .int p3), (5, .int p4), (6, .int p5), (7, .int p6), (8, .int p7), (9, .int p8), (10, .long p9), (12, .int p10), (13, .int p11)], [.int (lg_cmp p9 (-9000000000 : Int64))])) zq_284 zo_284 (by with_unfolding_all rfl) ?_
        replace hf := zf_ite hf
        obtain ⟨hc, hf⟩ | ⟨hc, hf⟩ := hf
        · refine zv_brT (off := 66) (tt := 232) (r := []) zq_284 zo_284 (zl_eq.mpr hc) rfl rfl rfl ?_
          refine zv_p (k := 2) (f' := (139, [(13, .int (p11 + (1 : Int32))), (0, .ref p0), (2, .int p1), (3, .int p2), (4, .int p3), (5, .int p4), (6, .int p5), (7, .int p6), (8, .int p7), (9, .int p8), (10, .long p9), (12, .int p10)], [])) zq_284 zo_284 (by with_unfolding_all rfl) ?_
          refine zv_pick (lv' := [(0, .ref p0), (2, .int p1), (3, .int p2), (4, .int p3), (5, .int p4), (6, .int p5), (7, .int p6), (8, .int p7), (9, .int p8), (10, .long p9), (12, .int p10), (13, .int (p11 + (1 : Int32)))]) [0, 2, 3, 4, 5, 6, 7, 8, 9, 10, 12, 13] rfl rfl ?_
          exact ih _ _ _ _ _ _ _ _ _ _ _ _ _ _ _ hf
        · refine zv_brF (off := 66) (tt := 232) (r := []) zq_284 zo_284 (mt zl_eq.mp hc) rfl rfl rfl ?_
          refine zv_p (k := 4) (f' := (175, [(0, .ref p0), (2, .int p1), (3, .int p2), (4, .int p3), (5, .int p4), (6, .int p5), (7, .int p6), (8, .int p7), (9, .int p8), (10, .long p9), (12, .int p10), (13, .int p11)], [.int p4, .int p11, .int p2, .ref p0])) zq_284 zo_284 (by with_unfolding_all rfl) ?_
          replace hf := zf_be hf
          obtain ⟨_, ho, hf⟩ := hf
          replace hf := zf_b3e hf
          obtain ⟨v13, h14, hv, hf⟩ | ⟨E15, h14, hv, hf⟩ := hf
          rotate_left
          · cases hf; exact zv_cx zq_284 zo_284 rfl rfl rfl rfl rfl (zv_cv rfl rfl rfl (zf_ise ho) rfl) (t_f_ColumnVault_get _ _ _ _ _ _ _ hv) rfl
          refine zv_c zq_284 zo_284 rfl rfl rfl rfl rfl (zv_cv rfl rfl rfl (zf_ise ho) rfl) (t_f_ColumnVault_get _ _ _ _ _ _ _ hv) ?_
          refine zv_p (k := 2) (f' := (181, [(0, .ref p0), (2, .int p1), (3, .int p2), (4, .int p3), (5, .int p4), (6, .int p5), (7, .int p6), (8, .int p7), (9, .int p8), (10, .long p9), (12, .int p10), (13, .int p11)], [.int (lg_cmp v13 p9)])) zq_284 zo_284 (by with_unfolding_all rfl) ?_
          replace hf := zf_ite hf
          obtain ⟨hc, hf⟩ | ⟨hc, hf⟩ := hf
          · refine zv_brT (off := 6) (tt := 187) (r := []) zq_284 zo_284 (zl_eq.mpr hc) rfl rfl rfl ?_
            refine zv_p (k := 4) (f' := (193, [(12, .int (0 : Int32)), (0, .ref p0), (2, .int p1), (3, .int p2), (4, .int p3), (5, .int p4), (6, .int p5), (7, .int p6), (8, .int p7), (9, .int p8), (10, .long p9), (13, .int p11)], [.int (2 : Int32), .int p5])) zq_284 zo_284 (by with_unfolding_all rfl) ?_
            replace hf := zf_ite hf
            obtain ⟨hc, hf⟩ | ⟨hc, hf⟩ := hf
            · refine zv_brT (off := 39) (tt := 232) (r := []) zq_284 zo_284 hc rfl rfl rfl ?_
              refine zv_p (k := 2) (f' := (139, [(13, .int (p11 + (1 : Int32))), (12, .int (0 : Int32)), (0, .ref p0), (2, .int p1), (3, .int p2), (4, .int p3), (5, .int p4), (6, .int p5), (7, .int p6), (8, .int p7), (9, .int p8), (10, .long p9)], [])) zq_284 zo_284 (by with_unfolding_all rfl) ?_
              refine zv_pick (lv' := [(0, .ref p0), (2, .int p1), (3, .int p2), (4, .int p3), (5, .int p4), (6, .int p5), (7, .int p6), (8, .int p7), (9, .int p8), (10, .long p9), (12, .int (0 : Int32)), (13, .int (p11 + (1 : Int32)))]) [0, 2, 3, 4, 5, 6, 7, 8, 9, 10, 12, 13] rfl rfl ?_
              exact ih _ _ _ _ _ _ _ _ _ _ _ _ _ _ _ hf
            · refine zv_brF (off := 39) (tt := 232) (r := []) zq_284 zo_284 hc rfl rfl rfl ?_
              refine zv_p (k := 2) (f' := (200, [(12, .int (0 : Int32)), (0, .ref p0), (2, .int p1), (3, .int p2), (4, .int p3), (5, .int p4), (6, .int p5), (7, .int p6), (8, .int p7), (9, .int p8), (10, .long p9), (13, .int p11)], [.int p6, .int p7])) zq_284 zo_284 (by with_unfolding_all rfl) ?_
              replace hf := zf_ite hf
              obtain ⟨hc, hf⟩ | ⟨hc, hf⟩ := hf
              · refine zv_brT (off := 30) (tt := 230) (r := []) zq_284 zo_284 hc rfl rfl rfl ?_
                refine zv_p (k := 1) (f' := (231, [(12, .int (0 : Int32)), (0, .ref p0), (2, .int p1), (3, .int p2), (4, .int p3), (5, .int p4), (6, .int p5), (7, .int p6), (8, .int p7), (9, .int p8), (10, .long p9), (13, .int p11)], [.int (0 : Int32)])) zq_284 zo_284 (by with_unfolding_all rfl) ?_
                cases hf
                exact zv_rn zq_284 zo_284 rfl rfl
              · refine zv_brF (off := 30) (tt := 230) (r := []) zq_284 zo_284 hc rfl rfl rfl ?_
                refine zv_p (k := 3) (f' := (207, [(12, .int (0 : Int32)), (0, .ref p0), (2, .int p1), (3, .int p2), (4, .int p3), (5, .int p4), (6, .int p5), (7, .int p6), (8, .int p7), (9, .int p8), (10, .long p9), (13, .int p11)], [.int (0 : Int32), .int p7, .ref p0])) zq_284 zo_284 (by with_unfolding_all rfl) ?_
                replace hf := zf_be hf
                obtain ⟨_, ho, hf⟩ := hf
                replace hf := zf_b3e hf
                obtain ⟨v16, h17, hv, hf⟩ | ⟨E18, h17, hv, hf⟩ := hf
                rotate_left
                · cases hf; exact zv_cx zq_284 zo_284 rfl rfl rfl rfl rfl (zv_cv rfl rfl rfl (zf_ise ho) rfl) (t_f_ColumnVault_pairAt _ _ _ _ _ _ hv) rfl
                refine zv_c zq_284 zo_284 rfl rfl rfl rfl rfl (zv_cv rfl rfl rfl (zf_ise ho) rfl) (t_f_ColumnVault_pairAt _ _ _ _ _ _ hv) ?_
                refine zv_p (k := 1) (f' := (212, [(12, .int (0 : Int32)), (0, .ref p0), (2, .int p1), (3, .int p2), (4, .int p3), (5, .int p4), (6, .int p5), (7, .int p6), (8, .int p7), (9, .int p8), (10, .long p9), (13, .int p11)], [.int p8, .int v16])) zq_284 zo_284 (by with_unfolding_all rfl) ?_
                replace hf := zf_ite hf
                obtain ⟨hc, hf⟩ | ⟨hc, hf⟩ := hf
                · refine zv_brT (off := 18) (tt := 230) (r := []) zq_284 zo_284 hc rfl rfl rfl ?_
                  refine zv_p (k := 1) (f' := (231, [(12, .int (0 : Int32)), (0, .ref p0), (2, .int p1), (3, .int p2), (4, .int p3), (5, .int p4), (6, .int p5), (7, .int p6), (8, .int p7), (9, .int p8), (10, .long p9), (13, .int p11)], [.int (0 : Int32)])) zq_284 zo_284 (by with_unfolding_all rfl) ?_
                  cases hf
                  exact zv_rn zq_284 zo_284 rfl rfl
                · refine zv_brF (off := 18) (tt := 230) (r := []) zq_284 zo_284 hc rfl rfl rfl ?_
                  refine zv_p (k := 4) (f' := (222, [(8, .int (p7 + (1 : Int32))), (12, .int (0 : Int32)), (0, .ref p0), (2, .int p1), (3, .int p2), (4, .int p3), (5, .int p4), (6, .int p5), (7, .int p6), (9, .int p8), (10, .long p9), (13, .int p11)], [.int (1 : Int32), .int p7, .ref p0])) zq_284 zo_284 (by with_unfolding_all rfl) ?_
                  replace hf := zf_be hf
                  obtain ⟨_, ho, hf⟩ := hf
                  replace hf := zf_b3e hf
                  obtain ⟨v19, h20, hv, hf⟩ | ⟨E21, h20, hv, hf⟩ := hf
                  rotate_left
                  · cases hf; exact zv_cx zq_284 zo_284 rfl rfl rfl rfl rfl (zv_cv rfl rfl rfl (zf_ise ho) rfl) (t_f_ColumnVault_pairAt _ _ _ _ _ _ hv) rfl
                  refine zv_c zq_284 zo_284 rfl rfl rfl rfl rfl (zv_cv rfl rfl rfl (zf_ise ho) rfl) (t_f_ColumnVault_pairAt _ _ _ _ _ _ hv) ?_
                  refine zv_p (k := 1) (f' := (227, [(8, .int (p7 + (1 : Int32))), (12, .int (0 : Int32)), (0, .ref p0), (2, .int p1), (3, .int p2), (4, .int p3), (5, .int p4), (6, .int p5), (7, .int p6), (9, .int p8), (10, .long p9), (13, .int p11)], [.int p11, .int v19])) zq_284 zo_284 (by with_unfolding_all rfl) ?_
                  replace hf := zf_ite hf
                  obtain ⟨hc, hf⟩ | ⟨hc, hf⟩ := hf
                  · refine zv_brT (off := 5) (tt := 232) (r := []) zq_284 zo_284 hc rfl rfl rfl ?_
                    refine zv_p (k := 2) (f' := (139, [(13, .int (p11 + (1 : Int32))), (8, .int (p7 + (1 : Int32))), (12, .int (0 : Int32)), (0, .ref p0), (2, .int p1), (3, .int p2), (4, .int p3), (5, .int p4), (6, .int p5), (7, .int p6), (9, .int p8), (10, .long p9)], [])) zq_284 zo_284 (by with_unfolding_all rfl) ?_
                    refine zv_pick (lv' := [(0, .ref p0), (2, .int p1), (3, .int p2), (4, .int p3), (5, .int p4), (6, .int p5), (7, .int p6), (8, .int (p7 + (1 : Int32))), (9, .int p8), (10, .long p9), (12, .int (0 : Int32)), (13, .int (p11 + (1 : Int32)))]) [0, 2, 3, 4, 5, 6, 7, 8, 9, 10, 12, 13] rfl rfl ?_
                    exact ih _ _ _ _ _ _ _ _ _ _ _ _ _ _ _ hf
                  · refine zv_brF (off := 5) (tt := 232) (r := []) zq_284 zo_284 hc rfl rfl rfl ?_
                    refine zv_p (k := 1) (f' := (231, [(8, .int (p7 + (1 : Int32))), (12, .int (0 : Int32)), (0, .ref p0), (2, .int p1), (3, .int p2), (4, .int p3), (5, .int p4), (6, .int p5), (7, .int p6), (9, .int p8), (10, .long p9), (13, .int p11)], [.int (0 : Int32)])) zq_284 zo_284 (by with_unfolding_all rfl) ?_
                    cases hf
                    exact zv_rn zq_284 zo_284 rfl rfl
          · refine zv_brF (off := 6) (tt := 187) (r := []) zq_284 zo_284 (mt zl_eq.mp hc) rfl rfl rfl ?_
            refine zv_p (k := 3) (f' := (139, [(13, .int (p11 + (1 : Int32))), (0, .ref p0), (2, .int p1), (3, .int p2), (4, .int p3), (5, .int p4), (6, .int p5), (7, .int p6), (8, .int p7), (9, .int p8), (10, .long p9), (12, .int p10)], [])) zq_284 zo_284 (by with_unfolding_all rfl) ?_
            refine zv_pick (lv' := [(0, .ref p0), (2, .int p1), (3, .int p2), (4, .int p3), (5, .int p4), (6, .int p5), (7, .int p6), (8, .int p7), (9, .int p8), (10, .long p9), (12, .int p10), (13, .int (p11 + (1 : Int32)))]) [0, 2, 3, 4, 5, 6, 7, 8, 9, 10, 12, 13] rfl rfl ?_
            exact ih _ _ _ _ _ _ _ _ _ _ _ _ _ _ _ hf
