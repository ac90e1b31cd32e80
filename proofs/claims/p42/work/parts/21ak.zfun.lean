/-! ColumnVault$FilterReader.readValues (II)Z -/
noncomputable def zI_78 : zd_T := [[(0, .aload_n 0, 1), (1, .iconst 0, 1), (2, .putfield 15, 3), (5, .iload_n 1, 1), (6, .bipush 109, 2), (8, .if_icmp .ne 7, 3), (11, .iconst 0, 1), (12, .goto 14, 3), (15, .iload_n 1, 1), (16, .bipush 116, 2), (18, .if_icmp .ne 7, 3), (21, .iconst 2, 1), (22, .goto 4, 3), (25, .iconst 1, 1), (26, .istore_n 3, 1), (27, .iconst 1, 1), (28, .istore 4, 2), (30, .iconst 0, 1), (31, .istore 5, 2)], [(33, .iload 5, 2), (35, .bipush 6, 2), (37, .if_icmp .gt 40, 3), (40, .iload 4, 2), (42, .ifCond .eq 35, 3), (45, .iload 5, 2), (47, .iload_n 3, 1), (48, .if_icmp .lt 16, 3), (51, .iload_n 1, 1), (52, .bipush 105, 2), (54, .if_icmp .ne 23, 3), (57, .aload_n 0, 1), (58, .invokevirtual 122, 3), (61, .ifCond .eq 16, 3)], [(64, .aload_n 0, 1), (65, .iload_n 2, 1), (66, .invokevirtual 126, 3), (69, .istore 4, 2), (71, .iinc 5 1, 3), (74, .goto (-41), 3), (77, .iload 4, 2), (79, .ireturn, 1)]]
theorem zo_78 : zd_of 78 = some zI_78 := rfl
set_option maxRecDepth 100000 in
theorem zq_78 : zt_m[78]? = some (⟨"ColumnVault$FilterReader", "readValues", "(II)Z"⟩, prog_3_method_11_code, 6, some (.boolean), [], 3, 2, 0, 0, 0, 0) := rfl
set_option maxHeartbeats 1000000 in
def f_FilterReader_readValues_33 : Nat → Nat → Int32 → Int32 → Int32 → Int32 → Int32 → zx_H → Option (Int32 × zx_H)
  | 0, _, _, _, _, _, _, _ => none
  | n + 1, p0, p1, p2, p3, p4, p5, h =>
    if (6 : Int32) < p5 then
      if narrow .boolean (.int p4) = .int p4 then some (p4, h) else none
    else
      if p4 = 0 then
        if narrow .boolean (.int p4) = .int p4 then some (p4, h) else none
      else
        if p5 < p3 then
          zf_b (zf_is 3 p0 h) fun _ =>
          zf_b2 (f_FilterReader_readValue p0 p2 h) fun v1 h2 =>
          (f_FilterReader_readValues_33 n) p0 p1 p2 p3 v1 (p5 + (1 : Int32)) h2
        else
          if ¬ p1 = (105 : Int32) then
            if narrow .boolean (.int p4) = .int p4 then some (p4, h) else none
          else
            zf_b (zf_is 3 p0 h) fun _ =>
            zf_b2 (f_FilterReader_isValueNext p0 h) fun v3 h4 =>
            if v3 = 0 then
              if narrow .boolean (.int p4) = .int p4 then some (p4, h4) else none
            else
              zf_b (zf_is 3 p0 h4) fun _ =>
              zf_b2 (f_FilterReader_readValue p0 p2 h4) fun v5 h6 =>
              (f_FilterReader_readValues_33 n) p0 p1 p2 p3 v5 (p5 + (1 : Int32)) h6
set_option maxHeartbeats 4000000 in
set_option maxRecDepth 400000 in
theorem t_f_FilterReader_readValues_33 {sc : (Nat × (Nat → Int32)) × Bool} {d : Nat} : ∀ (n : Nat) (p0 : Nat) (p1 : Int32) (p2 : Int32) (p3 : Int32) (p4 : Int32) (p5 : Int32) (h : zx_H) (r : Int32) (h' : zx_H), f_FilterReader_readValues_33 n p0 p1 p2 p3 p4 p5 h = some (r, h') → zx_T sc (d + 2) 78 (33, [(0, .ref p0), (1, .int p1), (2, .int p2), (3, .int p3), (4, .int p4), (5, .int p5)], []) h (zf_oI r) h' := by
  intro n
  induction n with
  | zero => intro p0 p1 p2 p3 p4 p5 h r h' hf; cases hf
  | succ n ih =>
    intro p0 p1 p2 p3 p4 p5 h r h' hf
    unfold f_FilterReader_readValues_33 at hf
    refine zv_p (k := 2) (f' := (37, [(0, .ref p0), (1, .int p1), (2, .int p2), (3, .int p3), (4, .int p4), (5, .int p5)], [.int (6 : Int32), .int p5])) zq_78 zo_78 (by with_unfolding_all rfl) ?_
    replace hf := zf_ite hf
    obtain ⟨hc, hf⟩ | ⟨hc, hf⟩ := hf
    · refine zv_brT (off := 40) (tt := 77) (r := []) zq_78 zo_78 hc rfl rfl rfl ?_
      refine zv_p (k := 1) (f' := (79, [(0, .ref p0), (1, .int p1), (2, .int p2), (3, .int p3), (4, .int p4), (5, .int p5)], [.int p4])) zq_78 zo_78 (by with_unfolding_all rfl) ?_
      replace hf := zf_ite hf
      obtain ⟨hc, hf⟩ | ⟨hc, hf⟩ := hf
      · cases hf; exact zv_rn zq_78 zo_78 rfl hc
      · cases hf
    · refine zv_brF (off := 40) (tt := 77) (r := []) zq_78 zo_78 hc rfl rfl rfl ?_
      refine zv_p (k := 1) (f' := (42, [(0, .ref p0), (1, .int p1), (2, .int p2), (3, .int p3), (4, .int p4), (5, .int p5)], [.int p4])) zq_78 zo_78 (by with_unfolding_all rfl) ?_
      replace hf := zf_ite hf
      obtain ⟨hc, hf⟩ | ⟨hc, hf⟩ := hf
      · refine zv_brT (off := 35) (tt := 77) (r := []) zq_78 zo_78 hc rfl rfl rfl ?_
        refine zv_p (k := 1) (f' := (79, [(0, .ref p0), (1, .int p1), (2, .int p2), (3, .int p3), (4, .int p4), (5, .int p5)], [.int p4])) zq_78 zo_78 (by with_unfolding_all rfl) ?_
        replace hf := zf_ite hf
        obtain ⟨hc, hf⟩ | ⟨hc, hf⟩ := hf
        · cases hf; exact zv_rn zq_78 zo_78 rfl hc
        · cases hf
      · refine zv_brF (off := 35) (tt := 77) (r := []) zq_78 zo_78 hc rfl rfl rfl ?_
        refine zv_p (k := 2) (f' := (48, [(0, .ref p0), (1, .int p1), (2, .int p2), (3, .int p3), (4, .int p4), (5, .int p5)], [.int p3, .int p5])) zq_78 zo_78 (by with_unfolding_all rfl) ?_
        replace hf := zf_ite hf
        obtain ⟨hc, hf⟩ | ⟨hc, hf⟩ := hf
        · refine zv_brT (off := 16) (tt := 64) (r := []) zq_78 zo_78 hc rfl rfl rfl ?_
          refine zv_p (k := 2) (f' := (66, [(0, .ref p0), (1, .int p1), (2, .int p2), (3, .int p3), (4, .int p4), (5, .int p5)], [.int p2, .ref p0])) zq_78 zo_78 (by with_unfolding_all rfl) ?_
          replace hf := zf_be hf
          obtain ⟨_, ho, hf⟩ := hf
          replace hf := zf_b2e hf
          obtain ⟨v1, h2, hv, hf⟩ := hf
          refine zv_c zq_78 zo_78 rfl rfl rfl rfl rfl (zv_cv rfl rfl rfl (zf_ise ho) rfl) (t_f_FilterReader_readValue _ _ _ _ _ hv) ?_
          refine zv_p (k := 3) (f' := (33, [(5, .int (p5 + (1 : Int32))), (4, .int v1), (0, .ref p0), (1, .int p1), (2, .int p2), (3, .int p3)], [])) zq_78 zo_78 (by with_unfolding_all rfl) ?_
          refine zv_pick (lv' := [(0, .ref p0), (1, .int p1), (2, .int p2), (3, .int p3), (4, .int v1), (5, .int (p5 + (1 : Int32)))]) [0, 1, 2, 3, 4, 5] rfl rfl ?_
          exact ih _ _ _ _ _ _ _ _ _ hf
        · refine zv_brF (off := 16) (tt := 64) (r := []) zq_78 zo_78 hc rfl rfl rfl ?_
          refine zv_p (k := 2) (f' := (54, [(0, .ref p0), (1, .int p1), (2, .int p2), (3, .int p3), (4, .int p4), (5, .int p5)], [.int (105 : Int32), .int p1])) zq_78 zo_78 (by with_unfolding_all rfl) ?_
          replace hf := zf_ite hf
          obtain ⟨hc, hf⟩ | ⟨hc, hf⟩ := hf
          · refine zv_brT (off := 23) (tt := 77) (r := []) zq_78 zo_78 hc rfl rfl rfl ?_
            refine zv_p (k := 1) (f' := (79, [(0, .ref p0), (1, .int p1), (2, .int p2), (3, .int p3), (4, .int p4), (5, .int p5)], [.int p4])) zq_78 zo_78 (by with_unfolding_all rfl) ?_
            replace hf := zf_ite hf
            obtain ⟨hc, hf⟩ | ⟨hc, hf⟩ := hf
            · cases hf; exact zv_rn zq_78 zo_78 rfl hc
            · cases hf
          · refine zv_brF (off := 23) (tt := 77) (r := []) zq_78 zo_78 hc rfl rfl rfl ?_
            refine zv_p (k := 1) (f' := (58, [(0, .ref p0), (1, .int p1), (2, .int p2), (3, .int p3), (4, .int p4), (5, .int p5)], [.ref p0])) zq_78 zo_78 (by with_unfolding_all rfl) ?_
            replace hf := zf_be hf
            obtain ⟨_, ho, hf⟩ := hf
            replace hf := zf_b2e hf
            obtain ⟨v3, h4, hv, hf⟩ := hf
            refine zv_c zq_78 zo_78 rfl rfl rfl rfl rfl (zv_cv rfl rfl rfl (zf_ise ho) rfl) (t_f_FilterReader_isValueNext _ _ _ _ hv) ?_
            replace hf := zf_ite hf
            obtain ⟨hc, hf⟩ | ⟨hc, hf⟩ := hf
            · refine zv_brT (off := 16) (tt := 77) (r := []) zq_78 zo_78 hc rfl rfl rfl ?_
              refine zv_p (k := 1) (f' := (79, [(0, .ref p0), (1, .int p1), (2, .int p2), (3, .int p3), (4, .int p4), (5, .int p5)], [.int p4])) zq_78 zo_78 (by with_unfolding_all rfl) ?_
              replace hf := zf_ite hf
              obtain ⟨hc, hf⟩ | ⟨hc, hf⟩ := hf
              · cases hf; exact zv_rn zq_78 zo_78 rfl hc
              · cases hf
            · refine zv_brF (off := 16) (tt := 77) (r := []) zq_78 zo_78 hc rfl rfl rfl ?_
              refine zv_p (k := 2) (f' := (66, [(0, .ref p0), (1, .int p1), (2, .int p2), (3, .int p3), (4, .int p4), (5, .int p5)], [.int p2, .ref p0])) zq_78 zo_78 (by with_unfolding_all rfl) ?_
              replace hf := zf_be hf
              obtain ⟨_, ho, hf⟩ := hf
              replace hf := zf_b2e hf
              obtain ⟨v5, h6, hv, hf⟩ := hf
              refine zv_c zq_78 zo_78 rfl rfl rfl rfl rfl (zv_cv rfl rfl rfl (zf_ise ho) rfl) (t_f_FilterReader_readValue _ _ _ _ _ hv) ?_
              refine zv_p (k := 3) (f' := (33, [(5, .int (p5 + (1 : Int32))), (4, .int v5), (0, .ref p0), (1, .int p1), (2, .int p2), (3, .int p3)], [])) zq_78 zo_78 (by with_unfolding_all rfl) ?_
              refine zv_pick (lv' := [(0, .ref p0), (1, .int p1), (2, .int p2), (3, .int p3), (4, .int v5), (5, .int (p5 + (1 : Int32)))]) [0, 1, 2, 3, 4, 5] rfl rfl ?_
              exact ih _ _ _ _ _ _ _ _ _ hf
set_option maxHeartbeats 1000000 in
def f_FilterReader_readValues (p0 : Nat) (p1 : Int32) (p2 : Int32) (h : zx_H) : Option (Int32 × zx_H) :=
  zf_b (zf_put 3 3 p0 (.int (0 : Int32)) h) fun h1 =>
  if ¬ p1 = (109 : Int32) then
    if ¬ p1 = (116 : Int32) then
      f_FilterReader_readValues_33 zF p0 p1 p2 (1 : Int32) (1 : Int32) (0 : Int32) h1
    else
      f_FilterReader_readValues_33 zF p0 p1 p2 (2 : Int32) (1 : Int32) (0 : Int32) h1
  else
    f_FilterReader_readValues_33 zF p0 p1 p2 (0 : Int32) (1 : Int32) (0 : Int32) h1
set_option maxHeartbeats 4000000 in
set_option maxRecDepth 400000 in
theorem t_f_FilterReader_readValues {sc : (Nat × (Nat → Int32)) × Bool} {d : Nat} (p0 : Nat) (p1 : Int32) (p2 : Int32) (h : zx_H) (r : Int32) (h' : zx_H) (hf : f_FilterReader_readValues p0 p1 p2 h = some (r, h')) : zx_T sc (d + 2) 78 (0, [(0, .ref p0), (1, .int p1), (2, .int p2)], []) h (zf_oI r) h' := by
  unfold f_FilterReader_readValues at hf
  refine zv_p (k := 2) (f' := (2, [(0, .ref p0), (1, .int p1), (2, .int p2)], [.int (0 : Int32), .ref p0])) zq_78 zo_78 (by with_unfolding_all rfl) ?_
  replace hf := zf_be hf
  obtain ⟨h1, hv, hf⟩ := hf
  refine zv_pf zq_78 zo_78 rfl rfl rfl rfl hv ?_
  refine zv_p (k := 2) (f' := (8, [(0, .ref p0), (1, .int p1), (2, .int p2)], [.int (109 : Int32), .int p1])) zq_78 zo_78 (by with_unfolding_all rfl) ?_
  replace hf := zf_ite hf
  obtain ⟨hc, hf⟩ | ⟨hc, hf⟩ := hf
  · refine zv_brT (off := 7) (tt := 15) (r := []) zq_78 zo_78 hc rfl rfl rfl ?_
    refine zv_p (k := 2) (f' := (18, [(0, .ref p0), (1, .int p1), (2, .int p2)], [.int (116 : Int32), .int p1])) zq_78 zo_78 (by with_unfolding_all rfl) ?_
    replace hf := zf_ite hf
    obtain ⟨hc, hf⟩ | ⟨hc, hf⟩ := hf
    · refine zv_brT (off := 7) (tt := 25) (r := []) zq_78 zo_78 hc rfl rfl rfl ?_
      refine zv_p (k := 6) (f' := (33, [(5, .int (0 : Int32)), (4, .int (1 : Int32)), (3, .int (1 : Int32)), (0, .ref p0), (1, .int p1), (2, .int p2)], [])) zq_78 zo_78 (by with_unfolding_all rfl) ?_
      refine zv_pick (lv' := [(0, .ref p0), (1, .int p1), (2, .int p2), (3, .int (1 : Int32)), (4, .int (1 : Int32)), (5, .int (0 : Int32))]) [0, 1, 2, 3, 4, 5] rfl rfl ?_
      exact t_f_FilterReader_readValues_33 zF _ _ _ _ _ _ _ _ _ hf
    · refine zv_brF (off := 7) (tt := 25) (r := []) zq_78 zo_78 hc rfl rfl rfl ?_
      refine zv_p (k := 7) (f' := (33, [(5, .int (0 : Int32)), (4, .int (1 : Int32)), (3, .int (2 : Int32)), (0, .ref p0), (1, .int p1), (2, .int p2)], [])) zq_78 zo_78 (by with_unfolding_all rfl) ?_
      refine zv_pick (lv' := [(0, .ref p0), (1, .int p1), (2, .int p2), (3, .int (2 : Int32)), (4, .int (1 : Int32)), (5, .int (0 : Int32))]) [0, 1, 2, 3, 4, 5] rfl rfl ?_
      exact t_f_FilterReader_readValues_33 zF _ _ _ _ _ _ _ _ _ hf
  · refine zv_brF (off := 7) (tt := 15) (r := []) zq_78 zo_78 hc rfl rfl rfl ?_
    refine zv_p (k := 7) (f' := (33, [(5, .int (0 : Int32)), (4, .int (1 : Int32)), (3, .int (0 : Int32)), (0, .ref p0), (1, .int p1), (2, .int p2)], [])) zq_78 zo_78 (by with_unfolding_all rfl) ?_
    refine zv_pick (lv' := [(0, .ref p0), (1, .int p1), (2, .int p2), (3, .int (0 : Int32)), (4, .int (1 : Int32)), (5, .int (0 : Int32))]) [0, 1, 2, 3, 4, 5] rfl rfl ?_
    exact t_f_FilterReader_readValues_33 zF _ _ _ _ _ _ _ _ _ hf
/-! ColumnVault$FilterReader.rowsOfTest (II)J -/
noncomputable def zI_81 : zd_T := [[(0, .iload_n 2, 1), (1, .lookupswitch 119 #[(60, 43), (62, 63), (109, 104), (116, 83)], 43)], [(44, .aload_n 0, 1), (45, .getfield 32, 3), (48, .iload_n 1, 1), (49, .ldc2_w 135, 3), (52, .aload_n 0, 1), (53, .getfield 9, 3), (56, .iconst 0, 1), (57, .laload, 1), (58, .lconst 1, 1), (59, .lsub, 1), (60, .invokevirtual 137, 3), (63, .lreturn, 1)], [(64, .aload_n 0, 1), (65, .getfield 32, 3), (68, .iload_n 1, 1), (69, .aload_n 0, 1), (70, .getfield 9, 3), (73, .iconst 0, 1), (74, .laload, 1), (75, .lconst 1, 1), (76, .ladd, 1), (77, .ldc2_w 141, 3), (80, .invokevirtual 137, 3), (83, .lreturn, 1), (84, .aload_n 0, 1), (85, .getfield 32, 3), (88, .iload_n 1, 1), (89, .aload_n 0, 1), (90, .getfield 9, 3), (93, .iconst 0, 1), (94, .laload, 1), (95, .aload_n 0, 1)], [(96, .getfield 9, 3), (99, .iconst 1, 1), (100, .laload, 1), (101, .invokevirtual 137, 3), (104, .lreturn, 1), (105, .aload_n 0, 1), (106, .getfield 32, 3), (109, .iload_n 1, 1), (110, .ldc2_w 129, 3), (113, .ldc2_w 129, 3), (116, .invokevirtual 137, 3), (119, .lreturn, 1), (120, .lconst 0, 1), (121, .lstore_n 3, 1), (122, .iconst 0, 1), (123, .istore 5, 2), (125, .iload 5, 2), (127, .aload_n 0, 1)], [(128, .getfield 15, 3), (131, .if_icmp .ge 41, 3), (134, .iload 5, 2), (136, .bipush 6, 2), (138, .if_icmp .ge 34, 3), (141, .lload_n 3, 1), (142, .aload_n 0, 1), (143, .getfield 32, 3), (146, .iload_n 1, 1), (147, .aload_n 0, 1), (148, .getfield 9, 3), (151, .iload 5, 2), (153, .laload, 1), (154, .aload_n 0, 1), (155, .getfield 9, 3), (158, .iload 5, 2)], [(160, .laload, 1), (161, .invokevirtual 137, 3), (164, .lor, 1), (165, .lstore_n 3, 1), (166, .iinc 5 1, 3), (169, .goto (-44), 3), (172, .lload_n 3, 1), (173, .lreturn, 1)]]
theorem zo_81 : zd_of 81 = some zI_81 := rfl
set_option maxRecDepth 100000 in
theorem zq_81 : zt_m[81]? = some (⟨"ColumnVault$FilterReader", "rowsOfTest", "(II)J"⟩, prog_3_method_14_code, 6, some (.long), [], 3, 2, 0, 0, 0, 0) := rfl
set_option maxHeartbeats 1000000 in
def f_FilterReader_rowsOfTest_125 : Nat → Nat → Int32 → Int64 → Int32 → zx_H → Option (Int64 × zx_H)
  | 0, _, _, _, _, _ => none
  | n + 1, p0, p1, p2, p3, h =>
    zf_b (zf_I 3 3 p0 h) fun v1 =>
    if v1 ≤ p3 then
      some (p2, h)
    else
      if (6 : Int32) ≤ p3 then
        some (p2, h)
      else
        zf_b (zf_A 3 1 p0 h) fun v2 =>
        zf_b (zf_A 3 2 p0 h) fun v3 =>
        zf_b (zf_ldJ v3 p3 h) fun v4 =>
        zf_b (zf_A 3 2 p0 h) fun v5 =>
        zf_b (zf_ldJ v5 p3 h) fun v6 =>
        zf_b (zf_is 10 v2 h) fun _ =>
        zf_b2 (f_Sheet_rowsFromTo v2 p1 v4 v6 h) fun v7 h8 =>
        (f_FilterReader_rowsOfTest_125 n) p0 p1 (p2 ||| v7) (p3 + (1 : Int32)) h8
set_option maxHeartbeats 4000000 in
set_option maxRecDepth 400000 in
theorem t_f_FilterReader_rowsOfTest_125 {sc : (Nat × (Nat → Int32)) × Bool} {d : Nat} : ∀ (n : Nat) (p0 : Nat) (p1 : Int32) (p2 : Int64) (p3 : Int32) (h : zx_H) (r : Int64) (h' : zx_H), f_FilterReader_rowsOfTest_125 n p0 p1 p2 p3 h = some (r, h') → zx_T sc (d + 2) 81 (125, [(0, .ref p0), (1, .int p1), (3, .long p2), (5, .int p3)], []) h (zf_oJ r) h' := by
  intro n
  induction n with
  | zero => intro p0 p1 p2 p3 h r h' hf; cases hf
  | succ n ih =>
    intro p0 p1 p2 p3 h r h' hf
    unfold f_FilterReader_rowsOfTest_125 at hf
    refine zv_p (k := 2) (f' := (128, [(0, .ref p0), (1, .int p1), (3, .long p2), (5, .int p3)], [.ref p0, .int p3])) zq_81 zo_81 (by with_unfolding_all rfl) ?_
    replace hf := zf_be hf
    obtain ⟨v1, hv, hf⟩ := hf
    refine zv_gf zq_81 zo_81 rfl rfl rfl (zf_Ie hv) ?_
    replace hf := zf_ite hf
    obtain ⟨hc, hf⟩ | ⟨hc, hf⟩ := hf
    · refine zv_brT (off := 41) (tt := 172) (r := []) zq_81 zo_81 hc rfl rfl rfl ?_
      refine zv_p (k := 1) (f' := (173, [(0, .ref p0), (1, .int p1), (3, .long p2), (5, .int p3)], [.long p2])) zq_81 zo_81 (by with_unfolding_all rfl) ?_
      cases hf
      exact zv_r zq_81 zo_81 rfl rfl rfl rfl rfl
    · refine zv_brF (off := 41) (tt := 172) (r := []) zq_81 zo_81 hc rfl rfl rfl ?_
      refine zv_p (k := 2) (f' := (138, [(0, .ref p0), (1, .int p1), (3, .long p2), (5, .int p3)], [.int (6 : Int32), .int p3])) zq_81 zo_81 (by with_unfolding_all rfl) ?_
      replace hf := zf_ite hf
      obtain ⟨hc, hf⟩ | ⟨hc, hf⟩ := hf
      · refine zv_brT (off := 34) (tt := 172) (r := []) zq_81 zo_81 hc rfl rfl rfl ?_
        refine zv_p (k := 1) (f' := (173, [(0, .ref p0), (1, .int p1), (3, .long p2), (5, .int p3)], [.long p2])) zq_81 zo_81 (by with_unfolding_all rfl) ?_
        cases hf
        exact zv_r zq_81 zo_81 rfl rfl rfl rfl rfl
      · refine zv_brF (off := 34) (tt := 172) (r := []) zq_81 zo_81 hc rfl rfl rfl ?_
        refine zv_p (k := 2) (f' := (143, [(0, .ref p0), (1, .int p1), (3, .long p2), (5, .int p3)], [.ref p0, .long p2])) zq_81 zo_81 (by with_unfolding_all rfl) ?_
        replace hf := zf_be hf
        obtain ⟨v2, hv, hf⟩ := hf
        refine zv_gf zq_81 zo_81 rfl rfl rfl (zf_Ae hv) ?_
        refine zv_p (k := 2) (f' := (148, [(0, .ref p0), (1, .int p1), (3, .long p2), (5, .int p3)], [.ref p0, .int p1, .ref v2, .long p2])) zq_81 zo_81 (by with_unfolding_all rfl) ?_
        replace hf := zf_be hf
        obtain ⟨v3, hv, hf⟩ := hf
        refine zv_gf zq_81 zo_81 rfl rfl rfl (zf_Ae hv) ?_
        refine zv_p (k := 1) (f' := (153, [(0, .ref p0), (1, .int p1), (3, .long p2), (5, .int p3)], [.int p3, .ref v3, .int p1, .ref v2, .long p2])) zq_81 zo_81 (by with_unfolding_all rfl) ?_
        replace hf := zf_be hf
        obtain ⟨v4, hv, hf⟩ := hf
        refine zv_ldJ zq_81 zo_81 rfl hv ?_
        refine zv_p (k := 1) (f' := (155, [(0, .ref p0), (1, .int p1), (3, .long p2), (5, .int p3)], [.ref p0, .long v4, .int p1, .ref v2, .long p2])) zq_81 zo_81 (by with_unfolding_all rfl) ?_
        replace hf := zf_be hf
        obtain ⟨v5, hv, hf⟩ := hf
        refine zv_gf zq_81 zo_81 rfl rfl rfl (zf_Ae hv) ?_
        refine zv_p (k := 1) (f' := (160, [(0, .ref p0), (1, .int p1), (3, .long p2), (5, .int p3)], [.int p3, .ref v5, .long v4, .int p1, .ref v2, .long p2])) zq_81 zo_81 (by with_unfolding_all rfl) ?_
        replace hf := zf_be hf
        obtain ⟨v6, hv, hf⟩ := hf
        refine zv_ldJ zq_81 zo_81 rfl hv ?_
        replace hf := zf_be hf
        obtain ⟨_, ho, hf⟩ := hf
        replace hf := zf_b2e hf
        obtain ⟨v7, h8, hv, hf⟩ := hf
        refine zv_c zq_81 zo_81 rfl rfl rfl rfl rfl (zv_cv rfl rfl rfl (zf_ise ho) rfl) (t_f_Sheet_rowsFromTo _ _ _ _ _ _ _ hv) ?_
        refine zv_p (k := 4) (f' := (125, [(5, .int (p3 + (1 : Int32))), (3, .long (p2 ||| v7)), (0, .ref p0), (1, .int p1)], [])) zq_81 zo_81 (by with_unfolding_all rfl) ?_
        refine zv_pick (lv' := [(0, .ref p0), (1, .int p1), (3, .long (p2 ||| v7)), (5, .int (p3 + (1 : Int32)))]) [0, 1, 3, 5] rfl rfl ?_
        exact ih _ _ _ _ _ _ _ hf
set_option maxHeartbeats 1000000 in
def f_FilterReader_rowsOfTest (p0 : Nat) (p1 : Int32) (p2 : Int32) (h : zx_H) : Option (Int64 × zx_H) :=
  if p2 = (60 : Int32) then
    zf_b (zf_A 3 1 p0 h) fun v1 =>
    zf_b (zf_A 3 2 p0 h) fun v2 =>
    zf_b (zf_ldJ v2 (0 : Int32) h) fun v3 =>
    zf_b (zf_is 10 v1 h) fun _ =>
    zf_b2 (f_Sheet_rowsFromTo v1 p1 (-8999999999 : Int64) (v3 - (1 : Int64)) h) fun v4 h5 =>
    some (v4, h5)
  else if p2 = (62 : Int32) then
    zf_b (zf_A 3 1 p0 h) fun v6 =>
    zf_b (zf_A 3 2 p0 h) fun v7 =>
    zf_b (zf_ldJ v7 (0 : Int32) h) fun v8 =>
    zf_b (zf_is 10 v6 h) fun _ =>
    zf_b2 (f_Sheet_rowsFromTo v6 p1 (v8 + (1 : Int64)) (9223372036854775807 : Int64) h) fun v9 h10 =>
    some (v9, h10)
  else if p2 = (109 : Int32) then
    zf_b (zf_A 3 1 p0 h) fun v11 =>
    zf_b (zf_is 10 v11 h) fun _ =>
    zf_b2 (f_Sheet_rowsFromTo v11 p1 (-9000000000 : Int64) (-9000000000 : Int64) h) fun v12 h13 =>
    some (v12, h13)
  else if p2 = (116 : Int32) then
    zf_b (zf_A 3 1 p0 h) fun v14 =>
    zf_b (zf_A 3 2 p0 h) fun v15 =>
    zf_b (zf_ldJ v15 (0 : Int32) h) fun v16 =>
    zf_b (zf_A 3 2 p0 h) fun v17 =>
    zf_b (zf_ldJ v17 (1 : Int32) h) fun v18 =>
    zf_b (zf_is 10 v14 h) fun _ =>
    zf_b2 (f_Sheet_rowsFromTo v14 p1 v16 v18 h) fun v19 h20 =>
    some (v19, h20)
  else
    f_FilterReader_rowsOfTest_125 zF p0 p1 (0 : Int64) (0 : Int32) h
set_option maxHeartbeats 4000000 in
set_option maxRecDepth 400000 in
theorem t_f_FilterReader_rowsOfTest {sc : (Nat × (Nat → Int32)) × Bool} {d : Nat} (p0 : Nat) (p1 : Int32) (p2 : Int32) (h : zx_H) (r : Int64) (h' : zx_H) (hf : f_FilterReader_rowsOfTest p0 p1 p2 h = some (r, h')) : zx_T sc (d + 2) 81 (0, [(0, .ref p0), (1, .int p1), (2, .int p2)], []) h (zf_oJ r) h' := by
  unfold f_FilterReader_rowsOfTest at hf
  refine zv_p (k := 1) (f' := (1, [(0, .ref p0), (1, .int p1), (2, .int p2)], [.int p2])) zq_81 zo_81 (by with_unfolding_all rfl) ?_
  replace hf := zf_ite hf
  obtain ⟨hc, hf⟩ | ⟨hs0, hf⟩ := hf
  · refine zv_sw (f' := (44, [(0, .ref p0), (1, .int p1), (2, .int p2)], [])) zq_81 zo_81 rfl hc rfl ?_
    refine zv_p (k := 1) (f' := (45, [(0, .ref p0), (1, .int p1), (2, .int p2)], [.ref p0])) zq_81 zo_81 (by with_unfolding_all rfl) ?_
    replace hf := zf_be hf
    obtain ⟨v1, hv, hf⟩ := hf
    refine zv_gf zq_81 zo_81 rfl rfl rfl (zf_Ae hv) ?_
    refine zv_p (k := 1) (f' := (49, [(0, .ref p0), (1, .int p1), (2, .int p2)], [.int p1, .ref v1])) zq_81 zo_81 (by with_unfolding_all rfl) ?_
    refine zv_lng zq_81 zo_81 rfl rfl ?_
    refine zv_p (k := 1) (f' := (53, [(0, .ref p0), (1, .int p1), (2, .int p2)], [.ref p0, .long (-8999999999 : Int64), .int p1, .ref v1])) zq_81 zo_81 (by with_unfolding_all rfl) ?_
    replace hf := zf_be hf
    obtain ⟨v2, hv, hf⟩ := hf
    refine zv_gf zq_81 zo_81 rfl rfl rfl (zf_Ae hv) ?_
    refine zv_p (k := 1) (f' := (57, [(0, .ref p0), (1, .int p1), (2, .int p2)], [.int (0 : Int32), .ref v2, .long (-8999999999 : Int64), .int p1, .ref v1])) zq_81 zo_81 (by with_unfolding_all rfl) ?_
    replace hf := zf_be hf
    obtain ⟨v3, hv, hf⟩ := hf
    refine zv_ldJ zq_81 zo_81 rfl hv ?_
    refine zv_p (k := 2) (f' := (60, [(0, .ref p0), (1, .int p1), (2, .int p2)], [.long (v3 - (1 : Int64)), .long (-8999999999 : Int64), .int p1, .ref v1])) zq_81 zo_81 (by with_unfolding_all rfl) ?_
    replace hf := zf_be hf
    obtain ⟨_, ho, hf⟩ := hf
    replace hf := zf_b2e hf
    obtain ⟨v4, h5, hv, hf⟩ := hf
    refine zv_c zq_81 zo_81 rfl rfl rfl rfl rfl (zv_cv rfl rfl rfl (zf_ise ho) rfl) (t_f_Sheet_rowsFromTo _ _ _ _ _ _ _ hv) ?_
    cases hf
    exact zv_r zq_81 zo_81 rfl rfl rfl rfl rfl
  replace hf := zf_ite hf
  obtain ⟨hc, hf⟩ | ⟨hs1, hf⟩ := hf
  · refine zv_sw (f' := (64, [(0, .ref p0), (1, .int p1), (2, .int p2)], [])) zq_81 zo_81 rfl hc rfl ?_
    refine zv_p (k := 1) (f' := (65, [(0, .ref p0), (1, .int p1), (2, .int p2)], [.ref p0])) zq_81 zo_81 (by with_unfolding_all rfl) ?_
    replace hf := zf_be hf
    obtain ⟨v6, hv, hf⟩ := hf
    refine zv_gf zq_81 zo_81 rfl rfl rfl (zf_Ae hv) ?_
    refine zv_p (k := 2) (f' := (70, [(0, .ref p0), (1, .int p1), (2, .int p2)], [.ref p0, .int p1, .ref v6])) zq_81 zo_81 (by with_unfolding_all rfl) ?_
    replace hf := zf_be hf
    obtain ⟨v7, hv, hf⟩ := hf
    refine zv_gf zq_81 zo_81 rfl rfl rfl (zf_Ae hv) ?_
    refine zv_p (k := 1) (f' := (74, [(0, .ref p0), (1, .int p1), (2, .int p2)], [.int (0 : Int32), .ref v7, .int p1, .ref v6])) zq_81 zo_81 (by with_unfolding_all rfl) ?_
    replace hf := zf_be hf
    obtain ⟨v8, hv, hf⟩ := hf
    refine zv_ldJ zq_81 zo_81 rfl hv ?_
    refine zv_p (k := 2) (f' := (77, [(0, .ref p0), (1, .int p1), (2, .int p2)], [.long (v8 + (1 : Int64)), .int p1, .ref v6])) zq_81 zo_81 (by with_unfolding_all rfl) ?_
    refine zv_lng zq_81 zo_81 rfl rfl ?_
    replace hf := zf_be hf
    obtain ⟨_, ho, hf⟩ := hf
    replace hf := zf_b2e hf
    obtain ⟨v9, h10, hv, hf⟩ := hf
    refine zv_c zq_81 zo_81 rfl rfl rfl rfl rfl (zv_cv rfl rfl rfl (zf_ise ho) rfl) (t_f_Sheet_rowsFromTo _ _ _ _ _ _ _ hv) ?_
    cases hf
    exact zv_r zq_81 zo_81 rfl rfl rfl rfl rfl
  replace hf := zf_ite hf
  obtain ⟨hc, hf⟩ | ⟨hs2, hf⟩ := hf
  · refine zv_sw (f' := (105, [(0, .ref p0), (1, .int p1), (2, .int p2)], [])) zq_81 zo_81 rfl hc rfl ?_
    refine zv_p (k := 1) (f' := (106, [(0, .ref p0), (1, .int p1), (2, .int p2)], [.ref p0])) zq_81 zo_81 (by with_unfolding_all rfl) ?_
    replace hf := zf_be hf
    obtain ⟨v11, hv, hf⟩ := hf
    refine zv_gf zq_81 zo_81 rfl rfl rfl (zf_Ae hv) ?_
    refine zv_p (k := 1) (f' := (110, [(0, .ref p0), (1, .int p1), (2, .int p2)], [.int p1, .ref v11])) zq_81 zo_81 (by with_unfolding_all rfl) ?_
    refine zv_lng zq_81 zo_81 rfl rfl ?_
    refine zv_lng zq_81 zo_81 rfl rfl ?_
    replace hf := zf_be hf
    obtain ⟨_, ho, hf⟩ := hf
    replace hf := zf_b2e hf
    obtain ⟨v12, h13, hv, hf⟩ := hf
    refine zv_c zq_81 zo_81 rfl rfl rfl rfl rfl (zv_cv rfl rfl rfl (zf_ise ho) rfl) (t_f_Sheet_rowsFromTo _ _ _ _ _ _ _ hv) ?_
    cases hf
    exact zv_r zq_81 zo_81 rfl rfl rfl rfl rfl
  replace hf := zf_ite hf
  obtain ⟨hc, hf⟩ | ⟨hs3, hf⟩ := hf
  · refine zv_sw (f' := (84, [(0, .ref p0), (1, .int p1), (2, .int p2)], [])) zq_81 zo_81 rfl hc rfl ?_
    refine zv_p (k := 1) (f' := (85, [(0, .ref p0), (1, .int p1), (2, .int p2)], [.ref p0])) zq_81 zo_81 (by with_unfolding_all rfl) ?_
    replace hf := zf_be hf
    obtain ⟨v14, hv, hf⟩ := hf
    refine zv_gf zq_81 zo_81 rfl rfl rfl (zf_Ae hv) ?_
    refine zv_p (k := 2) (f' := (90, [(0, .ref p0), (1, .int p1), (2, .int p2)], [.ref p0, .int p1, .ref v14])) zq_81 zo_81 (by with_unfolding_all rfl) ?_
    replace hf := zf_be hf
    obtain ⟨v15, hv, hf⟩ := hf
    refine zv_gf zq_81 zo_81 rfl rfl rfl (zf_Ae hv) ?_
    refine zv_p (k := 1) (f' := (94, [(0, .ref p0), (1, .int p1), (2, .int p2)], [.int (0 : Int32), .ref v15, .int p1, .ref v14])) zq_81 zo_81 (by with_unfolding_all rfl) ?_
    replace hf := zf_be hf
    obtain ⟨v16, hv, hf⟩ := hf
    refine zv_ldJ zq_81 zo_81 rfl hv ?_
    refine zv_p (k := 1) (f' := (96, [(0, .ref p0), (1, .int p1), (2, .int p2)], [.ref p0, .long v16, .int p1, .ref v14])) zq_81 zo_81 (by with_unfolding_all rfl) ?_
    replace hf := zf_be hf
    obtain ⟨v17, hv, hf⟩ := hf
    refine zv_gf zq_81 zo_81 rfl rfl rfl (zf_Ae hv) ?_
    refine zv_p (k := 1) (f' := (100, [(0, .ref p0), (1, .int p1), (2, .int p2)], [.int (1 : Int32), .ref v17, .long v16, .int p1, .ref v14])) zq_81 zo_81 (by with_unfolding_all rfl) ?_
    replace hf := zf_be hf
    obtain ⟨v18, hv, hf⟩ := hf
    refine zv_ldJ zq_81 zo_81 rfl hv ?_
    replace hf := zf_be hf
    obtain ⟨_, ho, hf⟩ := hf
    replace hf := zf_b2e hf
    obtain ⟨v19, h20, hv, hf⟩ := hf
    refine zv_c zq_81 zo_81 rfl rfl rfl rfl rfl (zv_cv rfl rfl rfl (zf_ise ho) rfl) (t_f_Sheet_rowsFromTo _ _ _ _ _ _ _ hv) ?_
    cases hf
    exact zv_r zq_81 zo_81 rfl rfl rfl rfl rfl
  refine zv_lsd (tt := 120) zq_81 zo_81 rfl (zi_oc (zi_ne rfl hs0) (zi_oc (zi_ne rfl hs1) (zi_oc (zi_ne rfl hs2) (zi_oc (zi_ne rfl hs3) (zi_on _ _))))) rfl rfl ?_
  refine zv_p (k := 4) (f' := (125, [(5, .int (0 : Int32)), (3, .long (0 : Int64)), (0, .ref p0), (1, .int p1), (2, .int p2)], [])) zq_81 zo_81 (by with_unfolding_all rfl) ?_
  refine zv_pick (lv' := [(0, .ref p0), (1, .int p1), (3, .long (0 : Int64)), (5, .int (0 : Int32))]) [0, 1, 3, 5] rfl rfl ?_
  exact t_f_FilterReader_rowsOfTest_125 zF _ _ _ _ _ _ _ hf
/-! ColumnVault$FilterReader.readTest ()LColumnVault$Node; -/
noncomputable def zI_75 : zd_T := [[(0, .aload_n 0, 1), (1, .getfield 28, 3), (4, .aload_n 0, 1), (5, .getfield 19, 3), (8, .invokevirtual 93, 3), (11, .l2i, 1), (12, .istore_n 1, 1), (13, .iload_n 1, 1), (14, .iconst (-1), 1), (15, .if_icmp .ne 22, 3), (18, .aload_n 0, 1), (19, .iconst 1, 1), (20, .aload_n 0, 1), (21, .getfield 28, 3), (24, .aload_n 0, 1), (25, .getfield 19, 3), (28, .invokevirtual 50, 3), (31, .iconst 1, 1)], [(32, .iadd, 1), (33, .invokevirtual 53, 3), (36, .areturn, 1), (37, .aload_n 0, 1), (38, .getfield 32, 3), (41, .iload_n 1, 1), (42, .invokevirtual 97, 3), (45, .ifCond .ne 20, 3), (48, .aload_n 0, 1), (49, .iconst 2, 1), (50, .aload_n 0, 1), (51, .getfield 28, 3), (54, .aload_n 0, 1), (55, .getfield 19, 3), (58, .invokevirtual 50, 3), (61, .invokevirtual 53, 3)], [(64, .areturn, 1), (65, .aload_n 0, 1), (66, .aload_n 0, 1), (67, .getfield 19, 3), (70, .iconst 1, 1), (71, .iadd, 1), (72, .invokevirtual 100, 3), (75, .istore_n 2, 1), (76, .iload_n 2, 1), (77, .iconst (-1), 1), (78, .if_icmp .ne 22, 3), (81, .aload_n 0, 1), (82, .iconst 1, 1), (83, .aload_n 0, 1), (84, .getfield 28, 3), (87, .aload_n 0, 1), (88, .getfield 19, 3), (91, .iconst 1, 1), (92, .iadd, 1), (93, .invokevirtual 50, 3)], [(96, .invokevirtual 53, 3), (99, .areturn, 1), (100, .aload_n 0, 1), (101, .dup, 1), (102, .getfield 19, 3), (105, .iconst 2, 1), (106, .iadd, 1), (107, .putfield 19, 3), (110, .aload_n 0, 1), (111, .iload_n 2, 1), (112, .aload_n 0, 1), (113, .getfield 32, 3), (116, .iload_n 1, 1), (117, .invokevirtual 103, 3), (120, .invokevirtual 106, 3), (123, .ifCond .eq 20, 3), (126, .new 57, 3)], [(129, .dup, 1), (130, .iconst 0, 1), (131, .aload_n 0, 1), (132, .iload_n 1, 1), (133, .iload_n 2, 1), (134, .invokevirtual 110, 3), (137, .invokespecial 59, 3), (140, .goto 4, 3), (143, .aconst_null, 1), (144, .areturn, 1)]]
theorem zo_75 : zd_of 75 = some zI_75 := rfl
set_option maxRecDepth 100000 in
theorem zq_75 : zt_m[75]? = some (⟨"ColumnVault$FilterReader", "readTest", "()LColumnVault$Node;"⟩, prog_3_method_9_code, 3, some (.object "ColumnVault$Node"), [], 3, 0, 0, 0, 0, 0) := rfl
