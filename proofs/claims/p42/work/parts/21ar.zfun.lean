/-! ColumnVault.rank (IIII)I -/
noncomputable def zI_108 : zd_T := [[(0, .aload_n 0, 1), (1, .iload_n 1, 1), (2, .iload_n 2, 1), (3, .invokevirtual 91, 3), (6, .astore 5, 2), (8, .aload 5, 2), (10, .iload_n 3, 1), (11, .invokestatic 298, 3), (14, .aload 5, 2), (16, .iload 4, 2), (18, .invokestatic 108, 3), (21, .aload 5, 2), (23, .iload_n 3, 1), (24, .iload 4, 2), (26, .invokevirtual 118, 3), (29, .lstore 6, 2), (31, .lload 6, 2)], [(33, .ldc2_w 112, 3), (36, .lcmp, 1), (37, .ifCond .ne 14, 3), (40, .new 310, 3), (43, .dup, 1), (44, .ldc_w 312, 3), (47, .invokespecial 314, 3), (50, .athrow, 1), (51, .iconst 1, 1), (52, .aload 5, 2), (54, .iload_n 2, 1), (55, .aload 5, 2), (57, .iload_n 2, 1), (58, .iload 4, 2), (60, .invokevirtual 118, 3), (63, .invokevirtual 315, 3)], [(66, .aload 5, 2), (68, .iload_n 3, 1), (69, .ldc2_w 318, 3), (72, .lload 6, 2), (74, .lconst 1, 1), (75, .lsub, 1), (76, .invokevirtual 320, 3), (79, .land, 1), (80, .invokestatic 137, 3), (83, .iadd, 1), (84, .ireturn, 1)]]
theorem zo_108 : zd_of 108 = some zI_108 := rfl
set_option maxRecDepth 100000 in
theorem zq_108 : zt_m[108]? = some (⟨"ColumnVault", "rank", "(IIII)I"⟩, prog_1_method_33_code, 8, some (.int), [], 12, 4, 0, 0, 0, 0) := rfl
set_option maxHeartbeats 1000000 in
def f_ColumnVault_rank (p0 : Nat) (p1 : Int32) (p2 : Int32) (p3 : Int32) (p4 : Int32) (h : zx_H) : Option ((Int32 ⊕ Nat) × zx_H) :=
  zf_b (zf_is 12 p0 h) fun _ =>
  zf_b3 (f_ColumnVault_sheetWith p0 p1 p2 h) fun v1 h2 =>
  zf_b3 (f_ColumnVault_requireColumn v1 p3 h2) fun _ h5 =>
  zf_b3 (f_ColumnVault_requireRow v1 p4 h5) fun _ h8 =>
  zf_b (zf_is 10 v1 h8) fun _ =>
  zf_b2 (f_Sheet_keyAt v1 p3 p4 h8) fun v10 h11 =>
  if ¬ v10 = (-9000000000 : Int64) then
    zf_b (zf_is 10 v1 h11) fun _ =>
    zf_b2 (f_Sheet_keyAt v1 p2 p4 h11) fun v12 h13 =>
    zf_b (zf_is 10 v1 h13) fun _ =>
    zf_b2 (f_Sheet_rowsWith v1 p2 v12 h13) fun v14 h15 =>
    zf_b (zf_is 10 v1 h15) fun _ =>
    zf_b2 (f_Sheet_rowsFromTo v1 p3 (-8999999999 : Int64) (v10 - (1 : Int64)) h15) fun v16 h17 =>
    zf_b2 (f_Long_bitCount (v14 &&& v16) h17) fun v18 h19 =>
    some (.inl ((1 : Int32) + v18), h19)
  else
    if h11.length < zx_lim then some (.inr 16, h11 ++ [.inr (16, [])]) else none
set_option maxHeartbeats 4000000 in
set_option maxRecDepth 400000 in
theorem t_f_ColumnVault_rank {sc : (Nat × (Nat → Int32)) × Bool} {d : Nat} (p0 : Nat) (p1 : Int32) (p2 : Int32) (p3 : Int32) (p4 : Int32) (h : zx_H) (r : (Int32 ⊕ Nat)) (h' : zx_H) (hf : f_ColumnVault_rank p0 p1 p2 p3 p4 h = some (r, h')) : zx_T sc (d + 3) 108 (0, [(0, .ref p0), (1, .int p1), (2, .int p2), (3, .int p3), (4, .int p4)], []) h (zf_oIx r) h' := by
  unfold f_ColumnVault_rank at hf
  refine zv_p (k := 3) (f' := (3, [(0, .ref p0), (1, .int p1), (2, .int p2), (3, .int p3), (4, .int p4)], [.int p2, .int p1, .ref p0])) zq_108 zo_108 (by with_unfolding_all rfl) ?_
  replace hf := zf_be hf
  obtain ⟨_, ho, hf⟩ := hf
  replace hf := zf_b3e hf
  obtain ⟨v1, h2, hv, hf⟩ | ⟨E3, h2, hv, hf⟩ := hf
  rotate_left
  · cases hf; exact zv_cx zq_108 zo_108 rfl rfl rfl rfl rfl (zv_cv rfl rfl rfl (zf_ise ho) rfl) (t_f_ColumnVault_sheetWith _ _ _ _ _ _ hv) rfl
  refine zv_c zq_108 zo_108 rfl rfl rfl rfl rfl (zv_cv rfl rfl rfl (zf_ise ho) rfl) (t_f_ColumnVault_sheetWith _ _ _ _ _ _ hv) ?_
  refine zv_p (k := 3) (f' := (11, [(5, .ref v1), (0, .ref p0), (1, .int p1), (2, .int p2), (3, .int p3), (4, .int p4)], [.int p3, .ref v1])) zq_108 zo_108 (by with_unfolding_all rfl) ?_
  replace hf := zf_b3e hf
  obtain ⟨v4, h5, hv, hf⟩ | ⟨E6, h5, hv, hf⟩ := hf
  rotate_left
  · cases hf; exact zv_cx zq_108 zo_108 rfl rfl rfl rfl rfl rfl (t_f_ColumnVault_requireColumn _ _ _ _ _ hv) rfl
  refine zv_c zq_108 zo_108 rfl rfl rfl rfl rfl rfl (t_f_ColumnVault_requireColumn _ _ _ _ _ hv) ?_
  refine zv_p (k := 2) (f' := (18, [(5, .ref v1), (0, .ref p0), (1, .int p1), (2, .int p2), (3, .int p3), (4, .int p4)], [.int p4, .ref v1])) zq_108 zo_108 (by with_unfolding_all rfl) ?_
  replace hf := zf_b3e hf
  obtain ⟨v7, h8, hv, hf⟩ | ⟨E9, h8, hv, hf⟩ := hf
  rotate_left
  · cases hf; exact zv_cx zq_108 zo_108 rfl rfl rfl rfl rfl rfl (t_f_ColumnVault_requireRow _ _ _ _ _ hv) rfl
  refine zv_c zq_108 zo_108 rfl rfl rfl rfl rfl rfl (t_f_ColumnVault_requireRow _ _ _ _ _ hv) ?_
  refine zv_p (k := 3) (f' := (26, [(5, .ref v1), (0, .ref p0), (1, .int p1), (2, .int p2), (3, .int p3), (4, .int p4)], [.int p4, .int p3, .ref v1])) zq_108 zo_108 (by with_unfolding_all rfl) ?_
  replace hf := zf_be hf
  obtain ⟨_, ho, hf⟩ := hf
  replace hf := zf_b2e hf
  obtain ⟨v10, h11, hv, hf⟩ := hf
  refine zv_c zq_108 zo_108 rfl rfl rfl rfl rfl (zv_cv rfl rfl rfl (zf_ise ho) rfl) (t_f_Sheet_keyAt _ _ _ _ _ _ hv) ?_
  refine zv_p (k := 2) (f' := (33, [(6, .long v10), (5, .ref v1), (0, .ref p0), (1, .int p1), (2, .int p2), (3, .int p3), (4, .int p4)], [.long v10])) zq_108 zo_108 (by with_unfolding_all rfl) ?_
  refine zv_lng zq_108 zo_108 rfl rfl ?_
  refine zv_p (k := 1) (f' := (37, [(6, .long v10), (5, .ref v1), (0, .ref p0), (1, .int p1), (2, .int p2), (3, .int p3), (4, .int p4)], [.int (lg_cmp v10 (-9000000000 : Int64))])) zq_108 zo_108 (by with_unfolding_all rfl) ?_
  replace hf := zf_ite hf
  obtain ⟨hc, hf⟩ | ⟨hc, hf⟩ := hf
  · refine zv_brT (off := 14) (tt := 51) (r := []) zq_108 zo_108 (zl_ne.mpr hc) rfl rfl rfl ?_
    refine zv_p (k := 6) (f' := (60, [(6, .long v10), (5, .ref v1), (0, .ref p0), (1, .int p1), (2, .int p2), (3, .int p3), (4, .int p4)], [.int p4, .int p2, .ref v1, .int p2, .ref v1, .int (1 : Int32)])) zq_108 zo_108 (by with_unfolding_all rfl) ?_
    replace hf := zf_be hf
    obtain ⟨_, ho, hf⟩ := hf
    replace hf := zf_b2e hf
    obtain ⟨v12, h13, hv, hf⟩ := hf
    refine zv_c zq_108 zo_108 rfl rfl rfl rfl rfl (zv_cv rfl rfl rfl (zf_ise ho) rfl) (t_f_Sheet_keyAt _ _ _ _ _ _ hv) ?_
    replace hf := zf_be hf
    obtain ⟨_, ho, hf⟩ := hf
    replace hf := zf_b2e hf
    obtain ⟨v14, h15, hv, hf⟩ := hf
    refine zv_c zq_108 zo_108 rfl rfl rfl rfl rfl (zv_cv rfl rfl rfl (zf_ise ho) rfl) (t_f_Sheet_rowsWith _ _ _ _ _ _ hv) ?_
    refine zv_p (k := 2) (f' := (69, [(6, .long v10), (5, .ref v1), (0, .ref p0), (1, .int p1), (2, .int p2), (3, .int p3), (4, .int p4)], [.int p3, .ref v1, .long v14, .int (1 : Int32)])) zq_108 zo_108 (by with_unfolding_all rfl) ?_
    refine zv_lng zq_108 zo_108 rfl rfl ?_
    refine zv_p (k := 3) (f' := (76, [(6, .long v10), (5, .ref v1), (0, .ref p0), (1, .int p1), (2, .int p2), (3, .int p3), (4, .int p4)], [.long (v10 - (1 : Int64)), .long (-8999999999 : Int64), .int p3, .ref v1, .long v14, .int (1 : Int32)])) zq_108 zo_108 (by with_unfolding_all rfl) ?_
    replace hf := zf_be hf
    obtain ⟨_, ho, hf⟩ := hf
    replace hf := zf_b2e hf
    obtain ⟨v16, h17, hv, hf⟩ := hf
    refine zv_c zq_108 zo_108 rfl rfl rfl rfl rfl (zv_cv rfl rfl rfl (zf_ise ho) rfl) (t_f_Sheet_rowsFromTo _ _ _ _ _ _ _ hv) ?_
    refine zv_p (k := 1) (f' := (80, [(6, .long v10), (5, .ref v1), (0, .ref p0), (1, .int p1), (2, .int p2), (3, .int p3), (4, .int p4)], [.long (v14 &&& v16), .int (1 : Int32)])) zq_108 zo_108 (by with_unfolding_all rfl) ?_
    replace hf := zf_b2e hf
    obtain ⟨v18, h19, hv, hf⟩ := hf
    refine zv_c zq_108 zo_108 rfl rfl rfl rfl rfl rfl (t_f_Long_bitCount _ _ _ _ hv) ?_
    refine zv_p (k := 1) (f' := (84, [(6, .long v10), (5, .ref v1), (0, .ref p0), (1, .int p1), (2, .int p2), (3, .int p3), (4, .int p4)], [.int ((1 : Int32) + v18)])) zq_108 zo_108 (by with_unfolding_all rfl) ?_
    cases hf
    exact zv_rn zq_108 zo_108 rfl rfl
  · refine zv_brF (off := 14) (tt := 51) (r := []) zq_108 zo_108 (mt zl_ne.mp hc) rfl rfl rfl ?_
    replace hf := zf_ite hf
    obtain ⟨hc, hf⟩ | ⟨hc, hf⟩ := hf
    · cases hf; exact zv_tw zq_108 zo_108 rfl rfl rfl rfl rfl rfl rfl rfl rfl hc
    · cases hf
/-! ColumnVault.between (IIJJ)I -/
noncomputable def zI_109 : zd_T := [[(0, .aload_n 0, 1), (1, .iload_n 1, 1), (2, .iload_n 2, 1), (3, .invokevirtual 91, 3), (6, .astore 7, 2), (8, .aload 7, 2), (10, .iload_n 2, 1), (11, .invokevirtual 95, 3), (14, .istore 8, 2), (16, .iload 8, 2), (18, .lload_n 3, 1), (19, .invokestatic 114, 3), (22, .iload 8, 2), (24, .lload 5, 2), (26, .invokestatic 114, 3), (29, .aload 7, 2), (31, .iload_n 2, 1)], [(32, .iload 8, 2), (34, .lload_n 3, 1), (35, .invokestatic 122, 3), (38, .iload 8, 2), (40, .lload 5, 2), (42, .invokestatic 122, 3), (45, .invokevirtual 320, 3), (48, .invokestatic 137, 3), (51, .ireturn, 1)]]
theorem zo_109 : zd_of 109 = some zI_109 := rfl
set_option maxRecDepth 100000 in
theorem zq_109 : zt_m[109]? = some (⟨"ColumnVault", "between", "(IIJJ)I"⟩, prog_1_method_35_code, 9, some (.int), [], 12, 4, 0, 0, 0, 0) := rfl
set_option maxHeartbeats 1000000 in
def f_ColumnVault_between (p0 : Nat) (p1 : Int32) (p2 : Int32) (p3 : Int64) (p4 : Int64) (h : zx_H) : Option ((Int32 ⊕ Nat) × zx_H) :=
  zf_b (zf_is 12 p0 h) fun _ =>
  zf_b3 (f_ColumnVault_sheetWith p0 p1 p2 h) fun v1 h2 =>
  zf_b (zf_is 10 v1 h2) fun _ =>
  zf_b2 (f_Sheet_kindOf v1 p2 h2) fun v4 h5 =>
  zf_b3 (f_ColumnVault_requireValue v4 p3 h5) fun _ h7 =>
  zf_b3 (f_ColumnVault_requireValue v4 p4 h7) fun _ h10 =>
  zf_b2 (f_ColumnVault_keyOf v4 p3 h10) fun v12 h13 =>
  zf_b2 (f_ColumnVault_keyOf v4 p4 h13) fun v14 h15 =>
  zf_b (zf_is 10 v1 h15) fun _ =>
  zf_b2 (f_Sheet_rowsFromTo v1 p2 v12 v14 h15) fun v16 h17 =>
  zf_b2 (f_Long_bitCount v16 h17) fun v18 h19 =>
  some (.inl v18, h19)
set_option maxHeartbeats 4000000 in
set_option maxRecDepth 400000 in
theorem t_f_ColumnVault_between {sc : (Nat × (Nat → Int32)) × Bool} {d : Nat} (p0 : Nat) (p1 : Int32) (p2 : Int32) (p3 : Int64) (p4 : Int64) (h : zx_H) (r : (Int32 ⊕ Nat)) (h' : zx_H) (hf : f_ColumnVault_between p0 p1 p2 p3 p4 h = some (r, h')) : zx_T sc (d + 3) 109 (0, [(0, .ref p0), (1, .int p1), (2, .int p2), (3, .long p3), (5, .long p4)], []) h (zf_oIx r) h' := by
  unfold f_ColumnVault_between at hf
  refine zv_p (k := 3) (f' := (3, [(0, .ref p0), (1, .int p1), (2, .int p2), (3, .long p3), (5, .long p4)], [.int p2, .int p1, .ref p0])) zq_109 zo_109 (by with_unfolding_all rfl) ?_
  replace hf := zf_be hf
  obtain ⟨_, ho, hf⟩ := hf
  replace hf := zf_b3e hf
  obtain ⟨v1, h2, hv, hf⟩ | ⟨E3, h2, hv, hf⟩ := hf
  rotate_left
  · cases hf; exact zv_cx zq_109 zo_109 rfl rfl rfl rfl rfl (zv_cv rfl rfl rfl (zf_ise ho) rfl) (t_f_ColumnVault_sheetWith _ _ _ _ _ _ hv) rfl
  refine zv_c zq_109 zo_109 rfl rfl rfl rfl rfl (zv_cv rfl rfl rfl (zf_ise ho) rfl) (t_f_ColumnVault_sheetWith _ _ _ _ _ _ hv) ?_
  refine zv_p (k := 3) (f' := (11, [(7, .ref v1), (0, .ref p0), (1, .int p1), (2, .int p2), (3, .long p3), (5, .long p4)], [.int p2, .ref v1])) zq_109 zo_109 (by with_unfolding_all rfl) ?_
  replace hf := zf_be hf
  obtain ⟨_, ho, hf⟩ := hf
  replace hf := zf_b2e hf
  obtain ⟨v4, h5, hv, hf⟩ := hf
  refine zv_c zq_109 zo_109 rfl rfl rfl rfl rfl (zv_cv rfl rfl rfl (zf_ise ho) rfl) (t_f_Sheet_kindOf _ _ _ _ _ hv) ?_
  refine zv_p (k := 3) (f' := (19, [(8, .int v4), (7, .ref v1), (0, .ref p0), (1, .int p1), (2, .int p2), (3, .long p3), (5, .long p4)], [.long p3, .int v4])) zq_109 zo_109 (by with_unfolding_all rfl) ?_
  replace hf := zf_b3e hf
  obtain ⟨v6, h7, hv, hf⟩ | ⟨E8, h7, hv, hf⟩ := hf
  rotate_left
  · cases hf; exact zv_cx zq_109 zo_109 rfl rfl rfl rfl rfl rfl (t_f_ColumnVault_requireValue _ _ _ _ _ hv) rfl
  refine zv_c zq_109 zo_109 rfl rfl rfl rfl rfl rfl (t_f_ColumnVault_requireValue _ _ _ _ _ hv) ?_
  refine zv_p (k := 2) (f' := (26, [(8, .int v4), (7, .ref v1), (0, .ref p0), (1, .int p1), (2, .int p2), (3, .long p3), (5, .long p4)], [.long p4, .int v4])) zq_109 zo_109 (by with_unfolding_all rfl) ?_
  replace hf := zf_b3e hf
  obtain ⟨v9, h10, hv, hf⟩ | ⟨E11, h10, hv, hf⟩ := hf
  rotate_left
  · cases hf; exact zv_cx zq_109 zo_109 rfl rfl rfl rfl rfl rfl (t_f_ColumnVault_requireValue _ _ _ _ _ hv) rfl
  refine zv_c zq_109 zo_109 rfl rfl rfl rfl rfl rfl (t_f_ColumnVault_requireValue _ _ _ _ _ hv) ?_
  refine zv_p (k := 4) (f' := (35, [(8, .int v4), (7, .ref v1), (0, .ref p0), (1, .int p1), (2, .int p2), (3, .long p3), (5, .long p4)], [.long p3, .int v4, .int p2, .ref v1])) zq_109 zo_109 (by with_unfolding_all rfl) ?_
  replace hf := zf_b2e hf
  obtain ⟨v12, h13, hv, hf⟩ := hf
  refine zv_c zq_109 zo_109 rfl rfl rfl rfl rfl rfl (t_f_ColumnVault_keyOf _ _ _ _ _ hv) ?_
  refine zv_p (k := 2) (f' := (42, [(8, .int v4), (7, .ref v1), (0, .ref p0), (1, .int p1), (2, .int p2), (3, .long p3), (5, .long p4)], [.long p4, .int v4, .long v12, .int p2, .ref v1])) zq_109 zo_109 (by with_unfolding_all rfl) ?_
  replace hf := zf_b2e hf
  obtain ⟨v14, h15, hv, hf⟩ := hf
  refine zv_c zq_109 zo_109 rfl rfl rfl rfl rfl rfl (t_f_ColumnVault_keyOf _ _ _ _ _ hv) ?_
  replace hf := zf_be hf
  obtain ⟨_, ho, hf⟩ := hf
  replace hf := zf_b2e hf
  obtain ⟨v16, h17, hv, hf⟩ := hf
  refine zv_c zq_109 zo_109 rfl rfl rfl rfl rfl (zv_cv rfl rfl rfl (zf_ise ho) rfl) (t_f_Sheet_rowsFromTo _ _ _ _ _ _ _ hv) ?_
  replace hf := zf_b2e hf
  obtain ⟨v18, h19, hv, hf⟩ := hf
  refine zv_c zq_109 zo_109 rfl rfl rfl rfl rfl rfl (t_f_Long_bitCount _ _ _ _ hv) ?_
  cases hf
  exact zv_rn zq_109 zo_109 rfl rfl
/-! ColumnVault$Sheet.nearestKey (IJZ)J -/
noncomputable def zI_111 : zd_T := [[(0, .ldc2_w 47, 3), (3, .lstore 5, 2), (5, .iconst 0, 1), (6, .istore 7, 2), (8, .iload 7, 2), (10, .aload_n 0, 1), (11, .getfield 26, 3), (14, .if_icmp .ge 98, 3), (17, .aload_n 0, 1), (18, .iload_n 1, 1), (19, .iload 7, 2), (21, .invokevirtual 52, 3), (24, .lstore 8, 2), (26, .lload 8, 2), (28, .ldc2_w 47, 3), (31, .lcmp, 1)], [(32, .ifCond .eq 29, 3), (35, .iload 4, 2), (37, .ifCond .eq 13, 3), (40, .lload 8, 2), (42, .lload_n 2, 1), (43, .lcmp, 1), (44, .ifCond .gt 17, 3), (47, .goto 10, 3), (50, .lload 8, 2), (52, .lload_n 2, 1), (53, .lcmp, 1), (54, .ifCond .lt 7, 3), (57, .iconst 1, 1), (58, .goto 4, 3), (61, .iconst 0, 1), (62, .istore 10, 2)], [(64, .iload 10, 2), (66, .ifCond .eq 40, 3), (69, .lload 5, 2), (71, .ldc2_w 47, 3), (74, .lcmp, 1), (75, .ifCond .eq 27, 3), (78, .iload 4, 2), (80, .ifCond .eq 14, 3), (83, .lload 8, 2), (85, .lload 5, 2), (87, .lcmp, 1), (88, .ifCond .le 18, 3), (91, .goto 11, 3), (94, .lload 8, 2)], [(96, .lload 5, 2), (98, .lcmp, 1), (99, .ifCond .ge 7, 3), (102, .lload 8, 2), (104, .lstore 5, 2), (106, .iinc 7 1, 3), (109, .goto (-101), 3), (112, .lload 5, 2), (114, .lreturn, 1)]]
theorem zo_111 : zd_of 111 = some zI_111 := rfl
set_option maxRecDepth 100000 in
theorem zq_111 : zt_m[111]? = some (⟨"ColumnVault$Sheet", "nearestKey", "(IJZ)J"⟩, prog_10_method_26_code, 11, some (.long), [], 10, 3, 0, 0, 0, 0) := rfl
set_option maxHeartbeats 1000000 in
def f_Sheet_nearestKey_62 (k8 : Nat → Int32 → Int64 → Int32 → Int64 → Int32 → zx_H → Option (Int64 × zx_H)) (p0 : Nat) (p1 : Int32) (p2 : Int64) (p3 : Int32) (p4 : Int64) (p5 : Int32) (p6 : Int64) (p7 : Int32) (h : zx_H) : Option (Int64 × zx_H) :=
  if p7 = 0 then
    k8 p0 p1 p2 p3 p4 (p5 + (1 : Int32)) h
  else
    if p4 = (-9000000000 : Int64) then
      k8 p0 p1 p2 p3 p6 (p5 + (1 : Int32)) h
    else
      if p3 = 0 then
        if p4 ≤ p6 then
          k8 p0 p1 p2 p3 p4 (p5 + (1 : Int32)) h
        else
          k8 p0 p1 p2 p3 p6 (p5 + (1 : Int32)) h
      else
        if p6 ≤ p4 then
          k8 p0 p1 p2 p3 p4 (p5 + (1 : Int32)) h
        else
          k8 p0 p1 p2 p3 p6 (p5 + (1 : Int32)) h
set_option maxHeartbeats 4000000 in
set_option maxRecDepth 400000 in
theorem t_f_Sheet_nearestKey_62 {sc : (Nat × (Nat → Int32)) × Bool} {d : Nat} {k8 : Nat → Int32 → Int64 → Int32 → Int64 → Int32 → zx_H → Option (Int64 × zx_H)} (hk8 : ∀ (a0 : Nat) (a1 : Int32) (a2 : Int64) (a3 : Int32) (a4 : Int64) (a5 : Int32) (h : zx_H) (r : Int64) (h' : zx_H), k8 a0 a1 a2 a3 a4 a5 h = some (r, h') → zx_T sc (d + 1) 111 (8, [(0, .ref a0), (1, .int a1), (2, .long a2), (4, .int a3), (5, .long a4), (7, .int a5)], []) h (zf_oJ r) h') (p0 : Nat) (p1 : Int32) (p2 : Int64) (p3 : Int32) (p4 : Int64) (p5 : Int32) (p6 : Int64) (p7 : Int32) (h : zx_H) (r : Int64) (h' : zx_H) (hf : f_Sheet_nearestKey_62 k8 p0 p1 p2 p3 p4 p5 p6 p7 h = some (r, h')) : zx_T sc (d + 1) 111 (62, [(0, .ref p0), (1, .int p1), (2, .long p2), (4, .int p3), (5, .long p4), (7, .int p5), (8, .long p6)], [.int p7]) h (zf_oJ r) h' := by
  unfold f_Sheet_nearestKey_62 at hf
  refine zv_p (k := 2) (f' := (66, [(10, .int p7), (0, .ref p0), (1, .int p1), (2, .long p2), (4, .int p3), (5, .long p4), (7, .int p5), (8, .long p6)], [.int p7])) zq_111 zo_111 (by with_unfolding_all rfl) ?_
  replace hf := zf_ite hf
  obtain ⟨hc, hf⟩ | ⟨hc, hf⟩ := hf
  · refine zv_brT (off := 40) (tt := 106) (r := []) zq_111 zo_111 hc rfl rfl rfl ?_
    refine zv_p (k := 2) (f' := (8, [(7, .int (p5 + (1 : Int32))), (10, .int p7), (0, .ref p0), (1, .int p1), (2, .long p2), (4, .int p3), (5, .long p4), (8, .long p6)], [])) zq_111 zo_111 (by with_unfolding_all rfl) ?_
    refine zv_pick (lv' := [(0, .ref p0), (1, .int p1), (2, .long p2), (4, .int p3), (5, .long p4), (7, .int (p5 + (1 : Int32)))]) [0, 1, 2, 4, 5, 7] rfl rfl ?_
    exact hk8 _ _ _ _ _ _ _ _ _ hf
  · refine zv_brF (off := 40) (tt := 106) (r := []) zq_111 zo_111 hc rfl rfl rfl ?_
    refine zv_p (k := 1) (f' := (71, [(10, .int p7), (0, .ref p0), (1, .int p1), (2, .long p2), (4, .int p3), (5, .long p4), (7, .int p5), (8, .long p6)], [.long p4])) zq_111 zo_111 (by with_unfolding_all rfl) ?_
    refine zv_lng zq_111 zo_111 rfl rfl ?_
    refine zv_p (k := 1) (f' := (75, [(10, .int p7), (0, .ref p0), (1, .int p1), (2, .long p2), (4, .int p3), (5, .long p4), (7, .int p5), (8, .long p6)], [.int (lg_cmp p4 (-9000000000 : Int64))])) zq_111 zo_111 (by with_unfolding_all rfl) ?_
    replace hf := zf_ite hf
    obtain ⟨hc, hf⟩ | ⟨hc, hf⟩ := hf
    · refine zv_brT (off := 27) (tt := 102) (r := []) zq_111 zo_111 (zl_eq.mpr hc) rfl rfl rfl ?_
      refine zv_p (k := 4) (f' := (8, [(7, .int (p5 + (1 : Int32))), (5, .long p6), (10, .int p7), (0, .ref p0), (1, .int p1), (2, .long p2), (4, .int p3), (8, .long p6)], [])) zq_111 zo_111 (by with_unfolding_all rfl) ?_
      refine zv_pick (lv' := [(0, .ref p0), (1, .int p1), (2, .long p2), (4, .int p3), (5, .long p6), (7, .int (p5 + (1 : Int32)))]) [0, 1, 2, 4, 5, 7] rfl rfl ?_
      exact hk8 _ _ _ _ _ _ _ _ _ hf
    · refine zv_brF (off := 27) (tt := 102) (r := []) zq_111 zo_111 (mt zl_eq.mp hc) rfl rfl rfl ?_
      refine zv_p (k := 1) (f' := (80, [(10, .int p7), (0, .ref p0), (1, .int p1), (2, .long p2), (4, .int p3), (5, .long p4), (7, .int p5), (8, .long p6)], [.int p3])) zq_111 zo_111 (by with_unfolding_all rfl) ?_
      replace hf := zf_ite hf
      obtain ⟨hc, hf⟩ | ⟨hc, hf⟩ := hf
      · refine zv_brT (off := 14) (tt := 94) (r := []) zq_111 zo_111 hc rfl rfl rfl ?_
        refine zv_p (k := 3) (f' := (99, [(10, .int p7), (0, .ref p0), (1, .int p1), (2, .long p2), (4, .int p3), (5, .long p4), (7, .int p5), (8, .long p6)], [.int (lg_cmp p6 p4)])) zq_111 zo_111 (by with_unfolding_all rfl) ?_
        replace hf := zf_ite hf
        obtain ⟨hc, hf⟩ | ⟨hc, hf⟩ := hf
        · refine zv_brT (off := 7) (tt := 106) (r := []) zq_111 zo_111 (zl_ge.mpr hc) rfl rfl rfl ?_
          refine zv_p (k := 2) (f' := (8, [(7, .int (p5 + (1 : Int32))), (10, .int p7), (0, .ref p0), (1, .int p1), (2, .long p2), (4, .int p3), (5, .long p4), (8, .long p6)], [])) zq_111 zo_111 (by with_unfolding_all rfl) ?_
          refine zv_pick (lv' := [(0, .ref p0), (1, .int p1), (2, .long p2), (4, .int p3), (5, .long p4), (7, .int (p5 + (1 : Int32)))]) [0, 1, 2, 4, 5, 7] rfl rfl ?_
          exact hk8 _ _ _ _ _ _ _ _ _ hf
        · refine zv_brF (off := 7) (tt := 106) (r := []) zq_111 zo_111 (mt zl_ge.mp hc) rfl rfl rfl ?_
          refine zv_p (k := 4) (f' := (8, [(7, .int (p5 + (1 : Int32))), (5, .long p6), (10, .int p7), (0, .ref p0), (1, .int p1), (2, .long p2), (4, .int p3), (8, .long p6)], [])) zq_111 zo_111 (by with_unfolding_all rfl) ?_
          refine zv_pick (lv' := [(0, .ref p0), (1, .int p1), (2, .long p2), (4, .int p3), (5, .long p6), (7, .int (p5 + (1 : Int32)))]) [0, 1, 2, 4, 5, 7] rfl rfl ?_
          exact hk8 _ _ _ _ _ _ _ _ _ hf
      · refine zv_brF (off := 14) (tt := 94) (r := []) zq_111 zo_111 hc rfl rfl rfl ?_
        refine zv_p (k := 3) (f' := (88, [(10, .int p7), (0, .ref p0), (1, .int p1), (2, .long p2), (4, .int p3), (5, .long p4), (7, .int p5), (8, .long p6)], [.int (lg_cmp p6 p4)])) zq_111 zo_111 (by with_unfolding_all rfl) ?_
        replace hf := zf_ite hf
        obtain ⟨hc, hf⟩ | ⟨hc, hf⟩ := hf
        · refine zv_brT (off := 18) (tt := 106) (r := []) zq_111 zo_111 (zl_le.mpr hc) rfl rfl rfl ?_
          refine zv_p (k := 2) (f' := (8, [(7, .int (p5 + (1 : Int32))), (10, .int p7), (0, .ref p0), (1, .int p1), (2, .long p2), (4, .int p3), (5, .long p4), (8, .long p6)], [])) zq_111 zo_111 (by with_unfolding_all rfl) ?_
          refine zv_pick (lv' := [(0, .ref p0), (1, .int p1), (2, .long p2), (4, .int p3), (5, .long p4), (7, .int (p5 + (1 : Int32)))]) [0, 1, 2, 4, 5, 7] rfl rfl ?_
          exact hk8 _ _ _ _ _ _ _ _ _ hf
        · refine zv_brF (off := 18) (tt := 106) (r := []) zq_111 zo_111 (mt zl_le.mp hc) rfl rfl rfl ?_
          refine zv_p (k := 5) (f' := (8, [(7, .int (p5 + (1 : Int32))), (5, .long p6), (10, .int p7), (0, .ref p0), (1, .int p1), (2, .long p2), (4, .int p3), (8, .long p6)], [])) zq_111 zo_111 (by with_unfolding_all rfl) ?_
          refine zv_pick (lv' := [(0, .ref p0), (1, .int p1), (2, .long p2), (4, .int p3), (5, .long p6), (7, .int (p5 + (1 : Int32)))]) [0, 1, 2, 4, 5, 7] rfl rfl ?_
          exact hk8 _ _ _ _ _ _ _ _ _ hf
set_option maxHeartbeats 1000000 in
def f_Sheet_nearestKey_8 : Nat → Nat → Int32 → Int64 → Int32 → Int64 → Int32 → zx_H → Option (Int64 × zx_H)
  | 0, _, _, _, _, _, _, _ => none
  | n + 1, p0, p1, p2, p3, p4, p5, h =>
    zf_b (zf_I 10 4 p0 h) fun v1 =>
    if v1 ≤ p5 then
      some (p4, h)
    else
      zf_b (zf_is 10 p0 h) fun _ =>
      zf_b2 (f_Sheet_keyAt p0 p1 p5 h) fun v2 h3 =>
      if v2 = (-9000000000 : Int64) then
        f_Sheet_nearestKey_62 (f_Sheet_nearestKey_8 n) p0 p1 p2 p3 p4 p5 v2 (0 : Int32) h3
      else
        if p3 = 0 then
          if v2 < p2 then
            f_Sheet_nearestKey_62 (f_Sheet_nearestKey_8 n) p0 p1 p2 p3 p4 p5 v2 (0 : Int32) h3
          else
            f_Sheet_nearestKey_62 (f_Sheet_nearestKey_8 n) p0 p1 p2 p3 p4 p5 v2 (1 : Int32) h3
        else
          if p2 < v2 then
            f_Sheet_nearestKey_62 (f_Sheet_nearestKey_8 n) p0 p1 p2 p3 p4 p5 v2 (0 : Int32) h3
          else
            f_Sheet_nearestKey_62 (f_Sheet_nearestKey_8 n) p0 p1 p2 p3 p4 p5 v2 (1 : Int32) h3
set_option maxHeartbeats 4000000 in
set_option maxRecDepth 400000 in
theorem t_f_Sheet_nearestKey_8 {sc : (Nat × (Nat → Int32)) × Bool} {d : Nat} : ∀ (n : Nat) (p0 : Nat) (p1 : Int32) (p2 : Int64) (p3 : Int32) (p4 : Int64) (p5 : Int32) (h : zx_H) (r : Int64) (h' : zx_H), f_Sheet_nearestKey_8 n p0 p1 p2 p3 p4 p5 h = some (r, h') → zx_T sc (d + 1) 111 (8, [(0, .ref p0), (1, .int p1), (2, .long p2), (4, .int p3), (5, .long p4), (7, .int p5)], []) h (zf_oJ r) h' := by
  intro n
  induction n with
  | zero => intro p0 p1 p2 p3 p4 p5 h r h' hf; cases hf
  | succ n ih =>
    intro p0 p1 p2 p3 p4 p5 h r h' hf
    unfold f_Sheet_nearestKey_8 at hf
    refine zv_p (k := 2) (f' := (11, [(0, .ref p0), (1, .int p1), (2, .long p2), (4, .int p3), (5, .long p4), (7, .int p5)], [.ref p0, .int p5])) zq_111 zo_111 (by with_unfolding_all rfl) ?_
    replace hf := zf_be hf
    obtain ⟨v1, hv, hf⟩ := hf
    refine zv_gf zq_111 zo_111 rfl rfl rfl (zf_Ie hv) ?_
    replace hf := zf_ite hf
    obtain ⟨hc, hf⟩ | ⟨hc, hf⟩ := hf
    · refine zv_brT (off := 98) (tt := 112) (r := []) zq_111 zo_111 hc rfl rfl rfl ?_
      refine zv_p (k := 1) (f' := (114, [(0, .ref p0), (1, .int p1), (2, .long p2), (4, .int p3), (5, .long p4), (7, .int p5)], [.long p4])) zq_111 zo_111 (by with_unfolding_all rfl) ?_
      cases hf
      exact zv_r zq_111 zo_111 rfl rfl rfl rfl rfl
    · refine zv_brF (off := 98) (tt := 112) (r := []) zq_111 zo_111 hc rfl rfl rfl ?_
      refine zv_p (k := 3) (f' := (21, [(0, .ref p0), (1, .int p1), (2, .long p2), (4, .int p3), (5, .long p4), (7, .int p5)], [.int p5, .int p1, .ref p0])) zq_111 zo_111 (by with_unfolding_all rfl) ?_
      replace hf := zf_be hf
      obtain ⟨_, ho, hf⟩ := hf
      replace hf := zf_b2e hf
      obtain ⟨v2, h3, hv, hf⟩ := hf
      refine zv_c zq_111 zo_111 rfl rfl rfl rfl rfl (zv_cv rfl rfl rfl (zf_ise ho) rfl) (t_f_Sheet_keyAt _ _ _ _ _ _ hv) ?_
      refine zv_p (k := 2) (f' := (28, [(8, .long v2), (0, .ref p0), (1, .int p1), (2, .long p2), (4, .int p3), (5, .long p4), (7, .int p5)], [.long v2])) zq_111 zo_111 (by with_unfolding_all rfl) ?_
      refine zv_lng zq_111 zo_111 rfl rfl ?_
      refine zv_p (k := 1) (f' := (32, [(8, .long v2), (0, .ref p0), (1, .int p1), (2, .long p2), (4, .int p3), (5, .long p4), (7, .int p5)], [.int (lg_cmp v2 (-9000000000 : Int64))])) zq_111 zo_111 (by with_unfolding_all rfl) ?_
      replace hf := zf_ite hf
      obtain ⟨hc, hf⟩ | ⟨hc, hf⟩ := hf
      · refine zv_brT (off := 29) (tt := 61) (r := []) zq_111 zo_111 (zl_eq.mpr hc) rfl rfl rfl ?_
        refine zv_p (k := 1) (f' := (62, [(8, .long v2), (0, .ref p0), (1, .int p1), (2, .long p2), (4, .int p3), (5, .long p4), (7, .int p5)], [.int (0 : Int32)])) zq_111 zo_111 (by with_unfolding_all rfl) ?_
        refine zv_pick (lv' := [(0, .ref p0), (1, .int p1), (2, .long p2), (4, .int p3), (5, .long p4), (7, .int p5), (8, .long v2)]) [0, 1, 2, 4, 5, 7, 8] rfl rfl ?_
        exact t_f_Sheet_nearestKey_62 ih _ _ _ _ _ _ _ _ _ _ _ hf
      · refine zv_brF (off := 29) (tt := 61) (r := []) zq_111 zo_111 (mt zl_eq.mp hc) rfl rfl rfl ?_
        refine zv_p (k := 1) (f' := (37, [(8, .long v2), (0, .ref p0), (1, .int p1), (2, .long p2), (4, .int p3), (5, .long p4), (7, .int p5)], [.int p3])) zq_111 zo_111 (by with_unfolding_all rfl) ?_
        replace hf := zf_ite hf
        obtain ⟨hc, hf⟩ | ⟨hc, hf⟩ := hf
        · refine zv_brT (off := 13) (tt := 50) (r := []) zq_111 zo_111 hc rfl rfl rfl ?_
          refine zv_p (k := 3) (f' := (54, [(8, .long v2), (0, .ref p0), (1, .int p1), (2, .long p2), (4, .int p3), (5, .long p4), (7, .int p5)], [.int (lg_cmp v2 p2)])) zq_111 zo_111 (by with_unfolding_all rfl) ?_
          replace hf := zf_ite hf
          obtain ⟨hc, hf⟩ | ⟨hc, hf⟩ := hf
          · refine zv_brT (off := 7) (tt := 61) (r := []) zq_111 zo_111 (zl_lt.mpr hc) rfl rfl rfl ?_
            refine zv_p (k := 1) (f' := (62, [(8, .long v2), (0, .ref p0), (1, .int p1), (2, .long p2), (4, .int p3), (5, .long p4), (7, .int p5)], [.int (0 : Int32)])) zq_111 zo_111 (by with_unfolding_all rfl) ?_
            refine zv_pick (lv' := [(0, .ref p0), (1, .int p1), (2, .long p2), (4, .int p3), (5, .long p4), (7, .int p5), (8, .long v2)]) [0, 1, 2, 4, 5, 7, 8] rfl rfl ?_
            exact t_f_Sheet_nearestKey_62 ih _ _ _ _ _ _ _ _ _ _ _ hf
          · refine zv_brF (off := 7) (tt := 61) (r := []) zq_111 zo_111 (mt zl_lt.mp hc) rfl rfl rfl ?_
            refine zv_p (k := 2) (f' := (62, [(8, .long v2), (0, .ref p0), (1, .int p1), (2, .long p2), (4, .int p3), (5, .long p4), (7, .int p5)], [.int (1 : Int32)])) zq_111 zo_111 (by with_unfolding_all rfl) ?_
            refine zv_pick (lv' := [(0, .ref p0), (1, .int p1), (2, .long p2), (4, .int p3), (5, .long p4), (7, .int p5), (8, .long v2)]) [0, 1, 2, 4, 5, 7, 8] rfl rfl ?_
            exact t_f_Sheet_nearestKey_62 ih _ _ _ _ _ _ _ _ _ _ _ hf
        · refine zv_brF (off := 13) (tt := 50) (r := []) zq_111 zo_111 hc rfl rfl rfl ?_
          refine zv_p (k := 3) (f' := (44, [(8, .long v2), (0, .ref p0), (1, .int p1), (2, .long p2), (4, .int p3), (5, .long p4), (7, .int p5)], [.int (lg_cmp v2 p2)])) zq_111 zo_111 (by with_unfolding_all rfl) ?_
          replace hf := zf_ite hf
          obtain ⟨hc, hf⟩ | ⟨hc, hf⟩ := hf
          · refine zv_brT (off := 17) (tt := 61) (r := []) zq_111 zo_111 (zl_gt.mpr hc) rfl rfl rfl ?_
            refine zv_p (k := 1) (f' := (62, [(8, .long v2), (0, .ref p0), (1, .int p1), (2, .long p2), (4, .int p3), (5, .long p4), (7, .int p5)], [.int (0 : Int32)])) zq_111 zo_111 (by with_unfolding_all rfl) ?_
            refine zv_pick (lv' := [(0, .ref p0), (1, .int p1), (2, .long p2), (4, .int p3), (5, .long p4), (7, .int p5), (8, .long v2)]) [0, 1, 2, 4, 5, 7, 8] rfl rfl ?_
            exact t_f_Sheet_nearestKey_62 ih _ _ _ _ _ _ _ _ _ _ _ hf
          · refine zv_brF (off := 17) (tt := 61) (r := []) zq_111 zo_111 (mt zl_gt.mp hc) rfl rfl rfl ?_
            refine zv_p (k := 3) (f' := (62, [(8, .long v2), (0, .ref p0), (1, .int p1), (2, .long p2), (4, .int p3), (5, .long p4), (7, .int p5)], [.int (1 : Int32)])) zq_111 zo_111 (by with_unfolding_all rfl) ?_
            refine zv_pick (lv' := [(0, .ref p0), (1, .int p1), (2, .long p2), (4, .int p3), (5, .long p4), (7, .int p5), (8, .long v2)]) [0, 1, 2, 4, 5, 7, 8] rfl rfl ?_
            exact t_f_Sheet_nearestKey_62 ih _ _ _ _ _ _ _ _ _ _ _ hf
set_option maxHeartbeats 1000000 in
def f_Sheet_nearestKey (p0 : Nat) (p1 : Int32) (p2 : Int64) (p3 : Int32) (h : zx_H) : Option (Int64 × zx_H) :=
  f_Sheet_nearestKey_8 zF p0 p1 p2 p3 (-9000000000 : Int64) (0 : Int32) h
set_option maxHeartbeats 4000000 in
set_option maxRecDepth 400000 in
theorem t_f_Sheet_nearestKey {sc : (Nat × (Nat → Int32)) × Bool} {d : Nat} (p0 : Nat) (p1 : Int32) (p2 : Int64) (p3 : Int32) (h : zx_H) (r : Int64) (h' : zx_H) (hf : f_Sheet_nearestKey p0 p1 p2 p3 h = some (r, h')) : zx_T sc (d + 1) 111 (0, [(0, .ref p0), (1, .int p1), (2, .long p2), (4, .int p3)], []) h (zf_oJ r) h' := by
  unfold f_Sheet_nearestKey at hf
  refine zv_lng zq_111 zo_111 rfl rfl ?_
  refine zv_p (k := 3) (f' := (8, [(7, .int (0 : Int32)), (5, .long (-9000000000 : Int64)), (0, .ref p0), (1, .int p1), (2, .long p2), (4, .int p3)], [])) zq_111 zo_111 (by with_unfolding_all rfl) ?_
  refine zv_pick (lv' := [(0, .ref p0), (1, .int p1), (2, .long p2), (4, .int p3), (5, .long (-9000000000 : Int64)), (7, .int (0 : Int32))]) [0, 1, 2, 4, 5, 7] rfl rfl ?_
  exact t_f_Sheet_nearestKey_8 zF _ _ _ _ _ _ _ _ _ hf
/-! ColumnVault.nearest (IIJZ)J -/
noncomputable def zI_110 : zd_T := [[(0, .aload_n 0, 1), (1, .iload_n 1, 1), (2, .iload_n 2, 1), (3, .invokevirtual 91, 3), (6, .astore 6, 2), (8, .aload 6, 2), (10, .iload_n 2, 1), (11, .invokevirtual 95, 3), (14, .istore 7, 2), (16, .iload 7, 2), (18, .lload_n 3, 1), (19, .invokestatic 114, 3), (22, .aload 6, 2), (24, .iload_n 2, 1), (25, .iload 7, 2), (27, .lload_n 3, 1), (28, .invokestatic 122, 3), (31, .iload 5, 2)], [(33, .invokevirtual 324, 3), (36, .lstore 8, 2), (38, .lload 8, 2), (40, .ldc2_w 112, 3), (43, .lcmp, 1), (44, .ifCond .ne 14, 3), (47, .new 310, 3), (50, .dup, 1), (51, .ldc_w 328, 3), (54, .invokespecial 314, 3), (57, .athrow, 1), (58, .iload 7, 2), (60, .lload 8, 2), (62, .invokestatic 330, 3)], [(65, .lreturn, 1)]]
theorem zo_110 : zd_of 110 = some zI_110 := rfl
set_option maxRecDepth 100000 in
theorem zq_110 : zt_m[110]? = some (⟨"ColumnVault", "nearest", "(IIJZ)J"⟩, prog_1_method_36_code, 10, some (.long), [], 12, 4, 0, 0, 0, 0) := rfl
set_option maxHeartbeats 1000000 in
def f_ColumnVault_nearest (p0 : Nat) (p1 : Int32) (p2 : Int32) (p3 : Int64) (p4 : Int32) (h : zx_H) : Option ((Int64 ⊕ Nat) × zx_H) :=
  zf_b (zf_is 12 p0 h) fun _ =>
  zf_b3 (f_ColumnVault_sheetWith p0 p1 p2 h) fun v1 h2 =>
  zf_b (zf_is 10 v1 h2) fun _ =>
  zf_b2 (f_Sheet_kindOf v1 p2 h2) fun v4 h5 =>
  zf_b3 (f_ColumnVault_requireValue v4 p3 h5) fun _ h7 =>
  zf_b2 (f_ColumnVault_keyOf v4 p3 h7) fun v9 h10 =>
  zf_b (zf_is 10 v1 h10) fun _ =>
  zf_b2 (f_Sheet_nearestKey v1 p2 v9 p4 h10) fun v11 h12 =>
  if ¬ v11 = (-9000000000 : Int64) then
    zf_b2 (f_ColumnVault_toldOf v4 v11 h12) fun v13 h14 =>
    some (.inl v13, h14)
  else
    if h12.length < zx_lim then some (.inr 16, h12 ++ [.inr (16, [])]) else none
set_option maxHeartbeats 4000000 in
set_option maxRecDepth 400000 in
theorem t_f_ColumnVault_nearest {sc : (Nat × (Nat → Int32)) × Bool} {d : Nat} (p0 : Nat) (p1 : Int32) (p2 : Int32) (p3 : Int64) (p4 : Int32) (h : zx_H) (r : (Int64 ⊕ Nat)) (h' : zx_H) (hf : f_ColumnVault_nearest p0 p1 p2 p3 p4 h = some (r, h')) : zx_T sc (d + 3) 110 (0, [(0, .ref p0), (1, .int p1), (2, .int p2), (3, .long p3), (5, .int p4)], []) h (zf_oJx r) h' := by
  unfold f_ColumnVault_nearest at hf
  refine zv_p (k := 3) (f' := (3, [(0, .ref p0), (1, .int p1), (2, .int p2), (3, .long p3), (5, .int p4)], [.int p2, .int p1, .ref p0])) zq_110 zo_110 (by with_unfolding_all rfl) ?_
  replace hf := zf_be hf
  obtain ⟨_, ho, hf⟩ := hf
  replace hf := zf_b3e hf
  obtain ⟨v1, h2, hv, hf⟩ | ⟨E3, h2, hv, hf⟩ := hf
  rotate_left
  · cases hf; exact zv_cx zq_110 zo_110 rfl rfl rfl rfl rfl (zv_cv rfl rfl rfl (zf_ise ho) rfl) (t_f_ColumnVault_sheetWith _ _ _ _ _ _ hv) rfl
  refine zv_c zq_110 zo_110 rfl rfl rfl rfl rfl (zv_cv rfl rfl rfl (zf_ise ho) rfl) (t_f_ColumnVault_sheetWith _ _ _ _ _ _ hv) ?_
  refine zv_p (k := 3) (f' := (11, [(6, .ref v1), (0, .ref p0), (1, .int p1), (2, .int p2), (3, .long p3), (5, .int p4)], [.int p2, .ref v1])) zq_110 zo_110 (by with_unfolding_all rfl) ?_
  replace hf := zf_be hf
  obtain ⟨_, ho, hf⟩ := hf
  replace hf := zf_b2e hf
  obtain ⟨v4, h5, hv, hf⟩ := hf
  refine zv_c zq_110 zo_110 rfl rfl rfl rfl rfl (zv_cv rfl rfl rfl (zf_ise ho) rfl) (t_f_Sheet_kindOf _ _ _ _ _ hv) ?_
  refine zv_p (k := 3) (f' := (19, [(7, .int v4), (6, .ref v1), (0, .ref p0), (1, .int p1), (2, .int p2), (3, .long p3), (5, .int p4)], [.long p3, .int v4])) zq_110 zo_110 (by with_unfolding_all rfl) ?_
  replace hf := zf_b3e hf
  obtain ⟨v6, h7, hv, hf⟩ | ⟨E8, h7, hv, hf⟩ := hf
  rotate_left
  · cases hf; exact zv_cx zq_110 zo_110 rfl rfl rfl rfl rfl rfl (t_f_ColumnVault_requireValue _ _ _ _ _ hv) rfl
  refine zv_c zq_110 zo_110 rfl rfl rfl rfl rfl rfl (t_f_ColumnVault_requireValue _ _ _ _ _ hv) ?_
  refine zv_p (k := 4) (f' := (28, [(7, .int v4), (6, .ref v1), (0, .ref p0), (1, .int p1), (2, .int p2), (3, .long p3), (5, .int p4)], [.long p3, .int v4, .int p2, .ref v1])) zq_110 zo_110 (by with_unfolding_all rfl) ?_
  replace hf := zf_b2e hf
  obtain ⟨v9, h10, hv, hf⟩ := hf
  refine zv_c zq_110 zo_110 rfl rfl rfl rfl rfl rfl (t_f_ColumnVault_keyOf _ _ _ _ _ hv) ?_
  refine zv_p (k := 1) (f' := (33, [(7, .int v4), (6, .ref v1), (0, .ref p0), (1, .int p1), (2, .int p2), (3, .long p3), (5, .int p4)], [.int p4, .long v9, .int p2, .ref v1])) zq_110 zo_110 (by with_unfolding_all rfl) ?_
  replace hf := zf_be hf
  obtain ⟨_, ho, hf⟩ := hf
  replace hf := zf_b2e hf
  obtain ⟨v11, h12, hv, hf⟩ := hf
  refine zv_c zq_110 zo_110 rfl rfl rfl rfl rfl (zv_cv rfl rfl rfl (zf_ise ho) rfl) (t_f_Sheet_nearestKey _ _ _ _ _ _ _ hv) ?_
  refine zv_p (k := 2) (f' := (40, [(8, .long v11), (7, .int v4), (6, .ref v1), (0, .ref p0), (1, .int p1), (2, .int p2), (3, .long p3), (5, .int p4)], [.long v11])) zq_110 zo_110 (by with_unfolding_all rfl) ?_
  refine zv_lng zq_110 zo_110 rfl rfl ?_
  refine zv_p (k := 1) (f' := (44, [(8, .long v11), (7, .int v4), (6, .ref v1), (0, .ref p0), (1, .int p1), (2, .int p2), (3, .long p3), (5, .int p4)], [.int (lg_cmp v11 (-9000000000 : Int64))])) zq_110 zo_110 (by with_unfolding_all rfl) ?_
  replace hf := zf_ite hf
  obtain ⟨hc, hf⟩ | ⟨hc, hf⟩ := hf
  · refine zv_brT (off := 14) (tt := 58) (r := []) zq_110 zo_110 (zl_ne.mpr hc) rfl rfl rfl ?_
    refine zv_p (k := 2) (f' := (62, [(8, .long v11), (7, .int v4), (6, .ref v1), (0, .ref p0), (1, .int p1), (2, .int p2), (3, .long p3), (5, .int p4)], [.long v11, .int v4])) zq_110 zo_110 (by with_unfolding_all rfl) ?_
    replace hf := zf_b2e hf
    obtain ⟨v13, h14, hv, hf⟩ := hf
    refine zv_c zq_110 zo_110 rfl rfl rfl rfl rfl rfl (t_f_ColumnVault_toldOf _ _ _ _ _ hv) ?_
    cases hf
    exact zv_r zq_110 zo_110 rfl rfl rfl rfl rfl
  · refine zv_brF (off := 14) (tt := 58) (r := []) zq_110 zo_110 (mt zl_ne.mp hc) rfl rfl rfl ?_
    replace hf := zf_ite hf
    obtain ⟨hc, hf⟩ | ⟨hc, hf⟩ := hf
    · cases hf; exact zv_tw zq_110 zo_110 rfl rfl rfl rfl rfl rfl rfl rfl rfl hc
    · cases hf
/-! ColumnVault.bytesIn (J)I -/
noncomputable def zI_113 : zd_T := [[(0, .iconst 0, 1), (1, .istore_n 2, 1), (2, .bipush 56, 2), (4, .istore_n 3, 1), (5, .iload_n 3, 1), (6, .ifCond .lt 29, 3), (9, .iload_n 2, 1), (10, .lload_n 0, 1), (11, .iload_n 3, 1), (12, .lushr, 1), (13, .ldc2_w 393, 3), (16, .land, 1), (17, .lconst 0, 1), (18, .lcmp, 1), (19, .ifCond .ne 7, 3), (22, .iconst 0, 1), (23, .goto 4, 3), (26, .iconst 1, 1), (27, .iadd, 1), (28, .istore_n 2, 1), (29, .iinc 3 (-8), 3)], [(32, .goto (-27), 3), (35, .iload_n 2, 1), (36, .ireturn, 1)]]
theorem zo_113 : zd_of 113 = some zI_113 := rfl
set_option maxRecDepth 100000 in
theorem zq_113 : zt_m[113]? = some (⟨"ColumnVault", "bytesIn", "(J)I"⟩, prog_1_method_61_code, 4, some (.int), [], 12, 1, 0, 1, 99999, 0) := rfl
set_option maxHeartbeats 1000000 in
def f_ColumnVault_bytesIn_5 : Nat → Int64 → Int32 → Int32 → zx_H → Option (Int32 × zx_H)
  | 0, _, _, _, _ => none
  | n + 1, p0, p1, p2, h =>
    if p2 < 0 then
      some (p1, h)
    else
      if ¬ (((p0).toUInt64 >>> ((p2).toInt64.toUInt64 &&& Int64.toUInt64 63)).toInt64 &&& (255 : Int64)) = (0 : Int64) then
        (f_ColumnVault_bytesIn_5 n) p0 (p1 + (1 : Int32)) (p2 + (-8 : Int32)) h
      else
        (f_ColumnVault_bytesIn_5 n) p0 (p1 + (0 : Int32)) (p2 + (-8 : Int32)) h
set_option maxHeartbeats 4000000 in
set_option maxRecDepth 400000 in
theorem t_f_ColumnVault_bytesIn_5 {sc : (Nat × (Nat → Int32)) × Bool} {d : Nat} : ∀ (n : Nat) (p0 : Int64) (p1 : Int32) (p2 : Int32) (h : zx_H) (r : Int32) (h' : zx_H), f_ColumnVault_bytesIn_5 n p0 p1 p2 h = some (r, h') → zx_T sc d 113 (5, [(0, .long p0), (2, .int p1), (3, .int p2)], []) h (zf_oI r) h' := by
  intro n
  induction n with
  | zero => intro p0 p1 p2 h r h' hf; cases hf
  | succ n ih =>
    intro p0 p1 p2 h r h' hf
    unfold f_ColumnVault_bytesIn_5 at hf
    refine zv_p (k := 1) (f' := (6, [(0, .long p0), (2, .int p1), (3, .int p2)], [.int p2])) zq_113 zo_113 (by with_unfolding_all rfl) ?_
    replace hf := zf_ite hf
    obtain ⟨hc, hf⟩ | ⟨hc, hf⟩ := hf
    · refine zv_brT (off := 29) (tt := 35) (r := []) zq_113 zo_113 hc rfl rfl rfl ?_
      refine zv_p (k := 1) (f' := (36, [(0, .long p0), (2, .int p1), (3, .int p2)], [.int p1])) zq_113 zo_113 (by with_unfolding_all rfl) ?_
      cases hf
      exact zv_rn zq_113 zo_113 rfl rfl
    · refine zv_brF (off := 29) (tt := 35) (r := []) zq_113 zo_113 hc rfl rfl rfl ?_
      refine zv_p (k := 4) (f' := (13, [(0, .long p0), (2, .int p1), (3, .int p2)], [.long ((p0).toUInt64 >>> ((p2).toInt64.toUInt64 &&& Int64.toUInt64 63)).toInt64, .int p1])) zq_113 zo_113 (by with_unfolding_all rfl) ?_
      refine zv_lng zq_113 zo_113 rfl rfl ?_
      refine zv_p (k := 3) (f' := (19, [(0, .long p0), (2, .int p1), (3, .int p2)], [.int (lg_cmp (((p0).toUInt64 >>> ((p2).toInt64.toUInt64 &&& Int64.toUInt64 63)).toInt64 &&& (255 : Int64)) (0 : Int64)), .int p1])) zq_113 zo_113 (by with_unfolding_all rfl) ?_
      replace hf := zf_ite hf
      obtain ⟨hc, hf⟩ | ⟨hc, hf⟩ := hf
      · refine zv_brT (off := 7) (tt := 26) (r := [.int p1]) zq_113 zo_113 (zl_ne.mpr hc) rfl rfl rfl ?_
        refine zv_p (k := 5) (f' := (5, [(3, .int (p2 + (-8 : Int32))), (2, .int (p1 + (1 : Int32))), (0, .long p0)], [])) zq_113 zo_113 (by with_unfolding_all rfl) ?_
        refine zv_pick (lv' := [(0, .long p0), (2, .int (p1 + (1 : Int32))), (3, .int (p2 + (-8 : Int32)))]) [0, 2, 3] rfl rfl ?_
        exact ih _ _ _ _ _ _ hf
      · refine zv_brF (off := 7) (tt := 26) (r := [.int p1]) zq_113 zo_113 (mt zl_ne.mp hc) rfl rfl rfl ?_
        refine zv_p (k := 6) (f' := (5, [(3, .int (p2 + (-8 : Int32))), (2, .int (p1 + (0 : Int32))), (0, .long p0)], [])) zq_113 zo_113 (by with_unfolding_all rfl) ?_
        refine zv_pick (lv' := [(0, .long p0), (2, .int (p1 + (0 : Int32))), (3, .int (p2 + (-8 : Int32)))]) [0, 2, 3] rfl rfl ?_
        exact ih _ _ _ _ _ _ hf
