/-! ColumnVault$Checks.sumOfGroups (I)J -/
noncomputable def zI_253 : zd_T := [[(0, .lconst 0, 1), (1, .lstore_n 2, 1), (2, .iconst 0, 1), (3, .istore 4, 2), (5, .iload 4, 2), (7, .aload_n 0, 1), (8, .getfield 21, 3), (11, .getfield 86, 3), (14, .if_icmp .ge 32, 3), (17, .lload_n 2, 1), (18, .aload_n 0, 1), (19, .getfield 21, 3), (22, .getfield 112, 3), (25, .iload_n 1, 1), (26, .aload_n 0, 1), (27, .getfield 21, 3), (30, .iload 4, 2)], [(32, .invokevirtual 89, 3), (35, .invokevirtual 108, 3), (38, .ladd, 1), (39, .lstore_n 2, 1), (40, .iinc 4 1, 3), (43, .goto (-38), 3), (46, .lload_n 2, 1), (47, .lreturn, 1)]]
theorem zo_253 : zd_of 253 = some zI_253 := rfl
set_option maxRecDepth 100000 in
theorem zq_253 : zt_m[253]? = some (⟨"ColumnVault$Checks", "sumOfGroups", "(I)J"⟩, prog_2_method_6_code, 5, some (.long), [], 2, 1, 0, 0, 0, 0) := rfl
set_option maxHeartbeats 1000000 in
def f_Checks_sumOfGroups_5 : Nat → Nat → Int32 → Int64 → Int32 → zx_H → Option (Int64 × zx_H)
  | 0, _, _, _, _, _ => none
  | n + 1, p0, p1, p2, p3, h =>
    zf_b (zf_A 2 1 p0 h) fun v1 =>
    zf_b (zf_I 5 4 v1 h) fun v2 =>
    if v2 ≤ p3 then
      some (p2, h)
    else
      zf_b (zf_A 2 1 p0 h) fun v3 =>
      zf_b (zf_A 5 0 v3 h) fun v4 =>
      zf_b (zf_A 2 1 p0 h) fun v5 =>
      zf_b (zf_is 5 v5 h) fun _ =>
      zf_b2 (f_Groups_rowsIn v5 p3 h) fun v6 h7 =>
      zf_b (zf_is 10 v4 h7) fun _ =>
      zf_b2 (f_Sheet_sumOf v4 p1 v6 h7) fun v8 h9 =>
      (f_Checks_sumOfGroups_5 n) p0 p1 (p2 + v8) (p3 + (1 : Int32)) h9
set_option maxHeartbeats 4000000 in
set_option maxRecDepth 400000 in
theorem t_f_Checks_sumOfGroups_5 {sc : (Nat × (Nat → Int32)) × Bool} {d : Nat} : ∀ (n : Nat) (p0 : Nat) (p1 : Int32) (p2 : Int64) (p3 : Int32) (h : zx_H) (r : Int64) (h' : zx_H), f_Checks_sumOfGroups_5 n p0 p1 p2 p3 h = some (r, h') → zx_T sc (d + 2) 253 (5, [(0, .ref p0), (1, .int p1), (2, .long p2), (4, .int p3)], []) h (zf_oJ r) h' := by
  intro n
  induction n with
  | zero => intro p0 p1 p2 p3 h r h' hf; cases hf
  | succ n ih =>
    intro p0 p1 p2 p3 h r h' hf
    unfold f_Checks_sumOfGroups_5 at hf
    refine zv_p (k := 2) (f' := (8, [(0, .ref p0), (1, .int p1), (2, .long p2), (4, .int p3)], [.ref p0, .int p3])) zq_253 zo_253 (by with_unfolding_all rfl) ?_
    replace hf := zf_be hf
    obtain ⟨v1, hv, hf⟩ := hf
    refine zv_gf zq_253 zo_253 rfl rfl rfl (zf_Ae hv) ?_
    replace hf := zf_be hf
    obtain ⟨v2, hv, hf⟩ := hf
    refine zv_gf zq_253 zo_253 rfl rfl rfl (zf_Ie hv) ?_
    replace hf := zf_ite hf
    obtain ⟨hc, hf⟩ | ⟨hc, hf⟩ := hf
    · refine zv_brT (off := 32) (tt := 46) (r := []) zq_253 zo_253 hc rfl rfl rfl ?_
      refine zv_p (k := 1) (f' := (47, [(0, .ref p0), (1, .int p1), (2, .long p2), (4, .int p3)], [.long p2])) zq_253 zo_253 (by with_unfolding_all rfl) ?_
      cases hf
      exact zv_r zq_253 zo_253 rfl rfl rfl rfl rfl
    · refine zv_brF (off := 32) (tt := 46) (r := []) zq_253 zo_253 hc rfl rfl rfl ?_
      refine zv_p (k := 2) (f' := (19, [(0, .ref p0), (1, .int p1), (2, .long p2), (4, .int p3)], [.ref p0, .long p2])) zq_253 zo_253 (by with_unfolding_all rfl) ?_
      replace hf := zf_be hf
      obtain ⟨v3, hv, hf⟩ := hf
      refine zv_gf zq_253 zo_253 rfl rfl rfl (zf_Ae hv) ?_
      replace hf := zf_be hf
      obtain ⟨v4, hv, hf⟩ := hf
      refine zv_gf zq_253 zo_253 rfl rfl rfl (zf_Ae hv) ?_
      refine zv_p (k := 2) (f' := (27, [(0, .ref p0), (1, .int p1), (2, .long p2), (4, .int p3)], [.ref p0, .int p1, .ref v4, .long p2])) zq_253 zo_253 (by with_unfolding_all rfl) ?_
      replace hf := zf_be hf
      obtain ⟨v5, hv, hf⟩ := hf
      refine zv_gf zq_253 zo_253 rfl rfl rfl (zf_Ae hv) ?_
      refine zv_p (k := 1) (f' := (32, [(0, .ref p0), (1, .int p1), (2, .long p2), (4, .int p3)], [.int p3, .ref v5, .int p1, .ref v4, .long p2])) zq_253 zo_253 (by with_unfolding_all rfl) ?_
      replace hf := zf_be hf
      obtain ⟨_, ho, hf⟩ := hf
      replace hf := zf_b2e hf
      obtain ⟨v6, h7, hv, hf⟩ := hf
      refine zv_c zq_253 zo_253 rfl rfl rfl rfl rfl (zv_cv rfl rfl rfl (zf_ise ho) rfl) (t_f_Groups_rowsIn _ _ _ _ _ hv) ?_
      replace hf := zf_be hf
      obtain ⟨_, ho, hf⟩ := hf
      replace hf := zf_b2e hf
      obtain ⟨v8, h9, hv, hf⟩ := hf
      refine zv_c zq_253 zo_253 rfl rfl rfl rfl rfl (zv_cv rfl rfl rfl (zf_ise ho) rfl) (t_f_Sheet_sumOf _ _ _ _ _ _ hv) ?_
      refine zv_p (k := 4) (f' := (5, [(4, .int (p3 + (1 : Int32))), (2, .long (p2 + v8)), (0, .ref p0), (1, .int p1)], [])) zq_253 zo_253 (by with_unfolding_all rfl) ?_
      refine zv_pick (lv' := [(0, .ref p0), (1, .int p1), (2, .long (p2 + v8)), (4, .int (p3 + (1 : Int32)))]) [0, 1, 2, 4] rfl rfl ?_
      exact ih _ _ _ _ _ _ _ hf
set_option maxHeartbeats 1000000 in
def f_Checks_sumOfGroups (p0 : Nat) (p1 : Int32) (h : zx_H) : Option (Int64 × zx_H) :=
  f_Checks_sumOfGroups_5 zF p0 p1 (0 : Int64) (0 : Int32) h
set_option maxHeartbeats 4000000 in
set_option maxRecDepth 400000 in
theorem t_f_Checks_sumOfGroups {sc : (Nat × (Nat → Int32)) × Bool} {d : Nat} (p0 : Nat) (p1 : Int32) (h : zx_H) (r : Int64) (h' : zx_H) (hf : f_Checks_sumOfGroups p0 p1 h = some (r, h')) : zx_T sc (d + 2) 253 (0, [(0, .ref p0), (1, .int p1)], []) h (zf_oJ r) h' := by
  unfold f_Checks_sumOfGroups at hf
  refine zv_p (k := 4) (f' := (5, [(4, .int (0 : Int32)), (2, .long (0 : Int64)), (0, .ref p0), (1, .int p1)], [])) zq_253 zo_253 (by with_unfolding_all rfl) ?_
  refine zv_pick (lv' := [(0, .ref p0), (1, .int p1), (2, .long (0 : Int64)), (4, .int (0 : Int32))]) [0, 1, 2, 4] rfl rfl ?_
  exact t_f_Checks_sumOfGroups_5 zF _ _ _ _ _ _ _ hf
/-! ColumnVault$Checks.groupFailures (LColumnVault$Sheet;I)I -/
noncomputable def zI_249 : zd_T := [[(0, .aload_n 0, 1), (1, .getfield 21, 3), (4, .aload_n 1, 1), (5, .iload_n 2, 1), (6, .invokevirtual 82, 3), (9, .iconst 0, 1), (10, .istore_n 3, 1), (11, .iconst 0, 1), (12, .istore 4, 2), (14, .iload 4, 2), (16, .aload_n 0, 1), (17, .getfield 21, 3), (20, .getfield 86, 3), (23, .if_icmp .ge 24, 3), (26, .iload_n 3, 1), (27, .aload_n 0, 1), (28, .getfield 21, 3), (31, .iload 4, 2)], [(33, .invokevirtual 89, 3), (36, .invokestatic 92, 3), (39, .iadd, 1), (40, .istore_n 3, 1), (41, .iinc 4 1, 3), (44, .goto (-30), 3), (47, .iload_n 3, 1), (48, .aload_n 1, 1), (49, .getfield 98, 3), (52, .invokestatic 92, 3), (55, .if_icmp .ne 7, 3), (58, .iconst 0, 1), (59, .goto 4, 3), (62, .iconst 1, 1), (63, .istore 4, 2)], [(65, .iconst 0, 1), (66, .istore 5, 2), (68, .iload 5, 2), (70, .aload_n 1, 1), (71, .getfield 29, 3), (74, .if_icmp .ge 41, 3), (77, .aload_n 1, 1), (78, .iload 5, 2), (80, .invokevirtual 102, 3), (83, .ifCond .ne 26, 3), (86, .aload_n 0, 1), (87, .iload 5, 2), (89, .invokevirtual 105, 3), (92, .aload_n 1, 1), (93, .iload 5, 2), (95, .aload_n 1, 1)], [(96, .getfield 98, 3), (99, .invokevirtual 108, 3), (102, .lcmp, 1), (103, .ifCond .eq 6, 3), (106, .iinc 4 1, 3), (109, .iinc 5 1, 3), (112, .goto (-44), 3), (115, .iload 4, 2), (117, .ireturn, 1)]]
theorem zo_249 : zd_of 249 = some zI_249 := rfl
set_option maxRecDepth 100000 in
theorem zq_249 : zt_m[249]? = some (⟨"ColumnVault$Checks", "groupFailures", "(LColumnVault$Sheet;I)I"⟩, prog_2_method_5_code, 6, some (.int), [], 2, 2, 0, 0, 0, 0) := rfl
set_option maxHeartbeats 1000000 in
def f_Checks_groupFailures_68 : Nat → Nat → Nat → Int32 → Int32 → zx_H → Option (Int32 × zx_H)
  | 0, _, _, _, _, _ => none
  | n + 1, p0, p1, p2, p3, h =>
    zf_b (zf_I 10 3 p1 h) fun v1 =>
    if v1 ≤ p3 then
      some (p2, h)
    else
      zf_b (zf_is 10 p1 h) fun _ =>
      zf_b2 (f_Sheet_kindOf p1 p3 h) fun v2 h3 =>
      if ¬ v2 = 0 then
        (f_Checks_groupFailures_68 n) p0 p1 p2 (p3 + (1 : Int32)) h3
      else
        zf_b (zf_is 2 p0 h3) fun _ =>
        zf_b2 (f_Checks_sumOfGroups p0 p3 h3) fun v4 h5 =>
        zf_b (zf_J 10 5 p1 h5) fun v6 =>
        zf_b (zf_is 10 p1 h5) fun _ =>
        zf_b2 (f_Sheet_sumOf p1 p3 v6 h5) fun v7 h8 =>
        if v4 = v7 then
          (f_Checks_groupFailures_68 n) p0 p1 p2 (p3 + (1 : Int32)) h8
        else
          (f_Checks_groupFailures_68 n) p0 p1 (p2 + (1 : Int32)) (p3 + (1 : Int32)) h8
set_option maxHeartbeats 4000000 in
set_option maxRecDepth 400000 in
theorem t_f_Checks_groupFailures_68 {sc : (Nat × (Nat → Int32)) × Bool} {d : Nat} : ∀ (n : Nat) (p0 : Nat) (p1 : Nat) (p2 : Int32) (p3 : Int32) (h : zx_H) (r : Int32) (h' : zx_H), f_Checks_groupFailures_68 n p0 p1 p2 p3 h = some (r, h') → zx_T sc (d + 3) 249 (68, [(0, .ref p0), (1, .ref p1), (4, .int p2), (5, .int p3)], []) h (zf_oI r) h' := by
  intro n
  induction n with
  | zero => intro p0 p1 p2 p3 h r h' hf; cases hf
  | succ n ih =>
    intro p0 p1 p2 p3 h r h' hf
    unfold f_Checks_groupFailures_68 at hf
    refine zv_p (k := 2) (f' := (71, [(0, .ref p0), (1, .ref p1), (4, .int p2), (5, .int p3)], [.ref p1, .int p3])) zq_249 zo_249 (by with_unfolding_all rfl) ?_
    replace hf := zf_be hf
    obtain ⟨v1, hv, hf⟩ := hf
    refine zv_gf zq_249 zo_249 rfl rfl rfl (zf_Ie hv) ?_
    replace hf := zf_ite hf
    obtain ⟨hc, hf⟩ | ⟨hc, hf⟩ := hf
    · refine zv_brT (off := 41) (tt := 115) (r := []) zq_249 zo_249 hc rfl rfl rfl ?_
      refine zv_p (k := 1) (f' := (117, [(0, .ref p0), (1, .ref p1), (4, .int p2), (5, .int p3)], [.int p2])) zq_249 zo_249 (by with_unfolding_all rfl) ?_
      cases hf
      exact zv_rn zq_249 zo_249 rfl rfl
    · refine zv_brF (off := 41) (tt := 115) (r := []) zq_249 zo_249 hc rfl rfl rfl ?_
      refine zv_p (k := 2) (f' := (80, [(0, .ref p0), (1, .ref p1), (4, .int p2), (5, .int p3)], [.int p3, .ref p1])) zq_249 zo_249 (by with_unfolding_all rfl) ?_
      replace hf := zf_be hf
      obtain ⟨_, ho, hf⟩ := hf
      replace hf := zf_b2e hf
      obtain ⟨v2, h3, hv, hf⟩ := hf
      refine zv_c zq_249 zo_249 rfl rfl rfl rfl rfl (zv_cv rfl rfl rfl (zf_ise ho) rfl) (t_f_Sheet_kindOf _ _ _ _ _ hv) ?_
      replace hf := zf_ite hf
      obtain ⟨hc, hf⟩ | ⟨hc, hf⟩ := hf
      · refine zv_brT (off := 26) (tt := 109) (r := []) zq_249 zo_249 hc rfl rfl rfl ?_
        refine zv_p (k := 2) (f' := (68, [(5, .int (p3 + (1 : Int32))), (0, .ref p0), (1, .ref p1), (4, .int p2)], [])) zq_249 zo_249 (by with_unfolding_all rfl) ?_
        refine zv_pick (lv' := [(0, .ref p0), (1, .ref p1), (4, .int p2), (5, .int (p3 + (1 : Int32)))]) [0, 1, 4, 5] rfl rfl ?_
        exact ih _ _ _ _ _ _ _ hf
      · refine zv_brF (off := 26) (tt := 109) (r := []) zq_249 zo_249 hc rfl rfl rfl ?_
        refine zv_p (k := 2) (f' := (89, [(0, .ref p0), (1, .ref p1), (4, .int p2), (5, .int p3)], [.int p3, .ref p0])) zq_249 zo_249 (by with_unfolding_all rfl) ?_
        replace hf := zf_be hf
        obtain ⟨_, ho, hf⟩ := hf
        replace hf := zf_b2e hf
        obtain ⟨v4, h5, hv, hf⟩ := hf
        refine zv_c zq_249 zo_249 rfl rfl rfl rfl rfl (zv_cv rfl rfl rfl (zf_ise ho) rfl) (t_f_Checks_sumOfGroups _ _ _ _ _ hv) ?_
        refine zv_p (k := 3) (f' := (96, [(0, .ref p0), (1, .ref p1), (4, .int p2), (5, .int p3)], [.ref p1, .int p3, .ref p1, .long v4])) zq_249 zo_249 (by with_unfolding_all rfl) ?_
        replace hf := zf_be hf
        obtain ⟨v6, hv, hf⟩ := hf
        refine zv_gf zq_249 zo_249 rfl rfl rfl (zf_Je hv) ?_
        replace hf := zf_be hf
        obtain ⟨_, ho, hf⟩ := hf
        replace hf := zf_b2e hf
        obtain ⟨v7, h8, hv, hf⟩ := hf
        refine zv_c zq_249 zo_249 rfl rfl rfl rfl rfl (zv_cv rfl rfl rfl (zf_ise ho) rfl) (t_f_Sheet_sumOf _ _ _ _ _ _ hv) ?_
        refine zv_p (k := 1) (f' := (103, [(0, .ref p0), (1, .ref p1), (4, .int p2), (5, .int p3)], [.int (lg_cmp v4 v7)])) zq_249 zo_249 (by with_unfolding_all rfl) ?_
        replace hf := zf_ite hf
        obtain ⟨hc, hf⟩ | ⟨hc, hf⟩ := hf
        · refine zv_brT (off := 6) (tt := 109) (r := []) zq_249 zo_249 (zl_eq.mpr hc) rfl rfl rfl ?_
          refine zv_p (k := 2) (f' := (68, [(5, .int (p3 + (1 : Int32))), (0, .ref p0), (1, .ref p1), (4, .int p2)], [])) zq_249 zo_249 (by with_unfolding_all rfl) ?_
          refine zv_pick (lv' := [(0, .ref p0), (1, .ref p1), (4, .int p2), (5, .int (p3 + (1 : Int32)))]) [0, 1, 4, 5] rfl rfl ?_
          exact ih _ _ _ _ _ _ _ hf
        · refine zv_brF (off := 6) (tt := 109) (r := []) zq_249 zo_249 (mt zl_eq.mp hc) rfl rfl rfl ?_
          refine zv_p (k := 3) (f' := (68, [(5, .int (p3 + (1 : Int32))), (4, .int (p2 + (1 : Int32))), (0, .ref p0), (1, .ref p1)], [])) zq_249 zo_249 (by with_unfolding_all rfl) ?_
          refine zv_pick (lv' := [(0, .ref p0), (1, .ref p1), (4, .int (p2 + (1 : Int32))), (5, .int (p3 + (1 : Int32)))]) [0, 1, 4, 5] rfl rfl ?_
          exact ih _ _ _ _ _ _ _ hf
set_option maxHeartbeats 1000000 in
def f_Checks_groupFailures_14 : Nat → Nat → Nat → Int32 → Int32 → zx_H → Option (Int32 × zx_H)
  | 0, _, _, _, _, _ => none
  | n + 1, p0, p1, p2, p3, h =>
    zf_b (zf_A 2 1 p0 h) fun v1 =>
    zf_b (zf_I 5 4 v1 h) fun v2 =>
    if v2 ≤ p3 then
      zf_b (zf_J 10 5 p1 h) fun v3 =>
      zf_b2 (f_Long_bitCount v3 h) fun v4 h5 =>
      if ¬ p2 = v4 then
        f_Checks_groupFailures_68 zF p0 p1 (1 : Int32) (0 : Int32) h5
      else
        f_Checks_groupFailures_68 zF p0 p1 (0 : Int32) (0 : Int32) h5
    else
      zf_b (zf_A 2 1 p0 h) fun v6 =>
      zf_b (zf_is 5 v6 h) fun _ =>
      zf_b2 (f_Groups_rowsIn v6 p3 h) fun v7 h8 =>
      zf_b2 (f_Long_bitCount v7 h8) fun v9 h10 =>
      (f_Checks_groupFailures_14 n) p0 p1 (p2 + v9) (p3 + (1 : Int32)) h10
set_option maxHeartbeats 4000000 in
set_option maxRecDepth 400000 in
theorem t_f_Checks_groupFailures_14 {sc : (Nat × (Nat → Int32)) × Bool} {d : Nat} : ∀ (n : Nat) (p0 : Nat) (p1 : Nat) (p2 : Int32) (p3 : Int32) (h : zx_H) (r : Int32) (h' : zx_H), f_Checks_groupFailures_14 n p0 p1 p2 p3 h = some (r, h') → zx_T sc (d + 3) 249 (14, [(0, .ref p0), (1, .ref p1), (3, .int p2), (4, .int p3)], []) h (zf_oI r) h' := by
  intro n
  induction n with
  | zero => intro p0 p1 p2 p3 h r h' hf; cases hf
  | succ n ih =>
    intro p0 p1 p2 p3 h r h' hf
    unfold f_Checks_groupFailures_14 at hf
    refine zv_p (k := 2) (f' := (17, [(0, .ref p0), (1, .ref p1), (3, .int p2), (4, .int p3)], [.ref p0, .int p3])) zq_249 zo_249 (by with_unfolding_all rfl) ?_
    replace hf := zf_be hf
    obtain ⟨v1, hv, hf⟩ := hf
    refine zv_gf zq_249 zo_249 rfl rfl rfl (zf_Ae hv) ?_
    replace hf := zf_be hf
    obtain ⟨v2, hv, hf⟩ := hf
    refine zv_gf zq_249 zo_249 rfl rfl rfl (zf_Ie hv) ?_
    replace hf := zf_ite hf
    obtain ⟨hc, hf⟩ | ⟨hc, hf⟩ := hf
    · refine zv_brT (off := 24) (tt := 47) (r := []) zq_249 zo_249 hc rfl rfl rfl ?_
      refine zv_p (k := 2) (f' := (49, [(0, .ref p0), (1, .ref p1), (3, .int p2), (4, .int p3)], [.ref p1, .int p2])) zq_249 zo_249 (by with_unfolding_all rfl) ?_
      replace hf := zf_be hf
      obtain ⟨v3, hv, hf⟩ := hf
      refine zv_gf zq_249 zo_249 rfl rfl rfl (zf_Je hv) ?_
      replace hf := zf_b2e hf
      obtain ⟨v4, h5, hv, hf⟩ := hf
      refine zv_c zq_249 zo_249 rfl rfl rfl rfl rfl rfl (t_f_Long_bitCount _ _ _ _ hv) ?_
      replace hf := zf_ite hf
      obtain ⟨hc, hf⟩ | ⟨hc, hf⟩ := hf
      · refine zv_brT (off := 7) (tt := 62) (r := []) zq_249 zo_249 hc rfl rfl rfl ?_
        refine zv_p (k := 4) (f' := (68, [(5, .int (0 : Int32)), (4, .int (1 : Int32)), (0, .ref p0), (1, .ref p1), (3, .int p2)], [])) zq_249 zo_249 (by with_unfolding_all rfl) ?_
        refine zv_pick (lv' := [(0, .ref p0), (1, .ref p1), (4, .int (1 : Int32)), (5, .int (0 : Int32))]) [0, 1, 4, 5] rfl rfl ?_
        exact t_f_Checks_groupFailures_68 zF _ _ _ _ _ _ _ hf
      · refine zv_brF (off := 7) (tt := 62) (r := []) zq_249 zo_249 hc rfl rfl rfl ?_
        refine zv_p (k := 5) (f' := (68, [(5, .int (0 : Int32)), (4, .int (0 : Int32)), (0, .ref p0), (1, .ref p1), (3, .int p2)], [])) zq_249 zo_249 (by with_unfolding_all rfl) ?_
        refine zv_pick (lv' := [(0, .ref p0), (1, .ref p1), (4, .int (0 : Int32)), (5, .int (0 : Int32))]) [0, 1, 4, 5] rfl rfl ?_
        exact t_f_Checks_groupFailures_68 zF _ _ _ _ _ _ _ hf
    · refine zv_brF (off := 24) (tt := 47) (r := []) zq_249 zo_249 hc rfl rfl rfl ?_
      refine zv_p (k := 2) (f' := (28, [(0, .ref p0), (1, .ref p1), (3, .int p2), (4, .int p3)], [.ref p0, .int p2])) zq_249 zo_249 (by with_unfolding_all rfl) ?_
      replace hf := zf_be hf
      obtain ⟨v6, hv, hf⟩ := hf
      refine zv_gf zq_249 zo_249 rfl rfl rfl (zf_Ae hv) ?_
      refine zv_p (k := 1) (f' := (33, [(0, .ref p0), (1, .ref p1), (3, .int p2), (4, .int p3)], [.int p3, .ref v6, .int p2])) zq_249 zo_249 (by with_unfolding_all rfl) ?_
      replace hf := zf_be hf
      obtain ⟨_, ho, hf⟩ := hf
      replace hf := zf_b2e hf
      obtain ⟨v7, h8, hv, hf⟩ := hf
      refine zv_c zq_249 zo_249 rfl rfl rfl rfl rfl (zv_cv rfl rfl rfl (zf_ise ho) rfl) (t_f_Groups_rowsIn _ _ _ _ _ hv) ?_
      replace hf := zf_b2e hf
      obtain ⟨v9, h10, hv, hf⟩ := hf
      refine zv_c zq_249 zo_249 rfl rfl rfl rfl rfl rfl (t_f_Long_bitCount _ _ _ _ hv) ?_
      refine zv_p (k := 4) (f' := (14, [(4, .int (p3 + (1 : Int32))), (3, .int (p2 + v9)), (0, .ref p0), (1, .ref p1)], [])) zq_249 zo_249 (by with_unfolding_all rfl) ?_
      refine zv_pick (lv' := [(0, .ref p0), (1, .ref p1), (3, .int (p2 + v9)), (4, .int (p3 + (1 : Int32)))]) [0, 1, 3, 4] rfl rfl ?_
      exact ih _ _ _ _ _ _ _ hf
set_option maxHeartbeats 1000000 in
def f_Checks_groupFailures (p0 : Nat) (p1 : Nat) (p2 : Int32) (h : zx_H) : Option (Int32 × zx_H) :=
  zf_b (zf_A 2 1 p0 h) fun v1 =>
  zf_b (zf_is 5 v1 h) fun _ =>
  zf_b2 (f_Groups_make v1 p1 p2 h) fun _ h3 =>
  f_Checks_groupFailures_14 zF p0 p1 (0 : Int32) (0 : Int32) h3
set_option maxHeartbeats 4000000 in
set_option maxRecDepth 400000 in
theorem t_f_Checks_groupFailures {sc : (Nat × (Nat → Int32)) × Bool} {d : Nat} (p0 : Nat) (p1 : Nat) (p2 : Int32) (h : zx_H) (r : Int32) (h' : zx_H) (hf : f_Checks_groupFailures p0 p1 p2 h = some (r, h')) : zx_T sc (d + 3) 249 (0, [(0, .ref p0), (1, .ref p1), (2, .int p2)], []) h (zf_oI r) h' := by
  unfold f_Checks_groupFailures at hf
  refine zv_p (k := 1) (f' := (1, [(0, .ref p0), (1, .ref p1), (2, .int p2)], [.ref p0])) zq_249 zo_249 (by with_unfolding_all rfl) ?_
  replace hf := zf_be hf
  obtain ⟨v1, hv, hf⟩ := hf
  refine zv_gf zq_249 zo_249 rfl rfl rfl (zf_Ae hv) ?_
  refine zv_p (k := 2) (f' := (6, [(0, .ref p0), (1, .ref p1), (2, .int p2)], [.int p2, .ref p1, .ref v1])) zq_249 zo_249 (by with_unfolding_all rfl) ?_
  replace hf := zf_be hf
  obtain ⟨_, ho, hf⟩ := hf
  replace hf := zf_b2e hf
  obtain ⟨v2, h3, hv, hf⟩ := hf
  refine zv_c zq_249 zo_249 rfl rfl rfl rfl rfl (zv_cv rfl rfl rfl (zf_ise ho) rfl) (t_f_Groups_make _ _ _ _ _ _ hv) ?_
  refine zv_p (k := 4) (f' := (14, [(4, .int (0 : Int32)), (3, .int (0 : Int32)), (0, .ref p0), (1, .ref p1), (2, .int p2)], [])) zq_249 zo_249 (by with_unfolding_all rfl) ?_
  refine zv_pick (lv' := [(0, .ref p0), (1, .ref p1), (3, .int (0 : Int32)), (4, .int (0 : Int32))]) [0, 1, 3, 4] rfl rfl ?_
  exact t_f_Checks_groupFailures_14 zF _ _ _ _ _ _ _ hf
/-! ColumnVault$Checks.failuresFrom (IJ)I -/
noncomputable def zI_255 : zd_T := [[(0, .iconst 0, 1), (1, .istore 4, 2), (3, .iconst 0, 1), (4, .istore 5, 2), (6, .iconst 0, 1), (7, .istore 6, 2), (9, .iload 6, 2), (11, .aload_n 0, 1), (12, .getfield 21, 3), (15, .getfield 86, 3), (18, .if_icmp .ge 86, 3), (21, .iload 6, 2), (23, .bipush 40, 2), (25, .if_icmp .ge 79, 3), (28, .aload_n 0, 1), (29, .getfield 21, 3)], [(32, .iload 6, 2), (34, .invokevirtual 117, 3), (37, .ldc2_w 124, 3), (40, .lcmp, 1), (41, .ifCond .eq 63, 3), (44, .iload 5, 2), (46, .iload 6, 2), (48, .iload_n 1, 1), (49, .if_icmp .ge 7, 3), (52, .iconst 0, 1), (53, .goto 15, 3), (56, .aload_n 0, 1), (57, .getfield 21, 3), (60, .iload 6, 2), (62, .invokevirtual 89, 3)], [(65, .invokestatic 92, 3), (68, .iadd, 1), (69, .istore 5, 2), (71, .iload 4, 2), (73, .lload_n 2, 1), (74, .aload_n 0, 1), (75, .getfield 25, 3), (78, .iload 6, 2), (80, .laload, 1), (81, .land, 1), (82, .invokestatic 92, 3), (85, .iload 5, 2), (87, .if_icmp .ne 7, 3), (90, .iconst 0, 1), (91, .goto 4, 3), (94, .iconst 1, 1), (95, .iadd, 1)], [(96, .istore 4, 2), (98, .iinc 6 1, 3), (101, .goto (-92), 3), (104, .iload 4, 2), (106, .ireturn, 1)]]
theorem zo_255 : zd_of 255 = some zI_255 := rfl
set_option maxRecDepth 100000 in
theorem zq_255 : zt_m[255]? = some (⟨"ColumnVault$Checks", "failuresFrom", "(IJ)I"⟩, prog_2_method_8_code, 7, some (.int), [], 2, 2, 0, 0, 0, 0) := rfl
set_option maxHeartbeats 1000000 in
def f_Checks_failuresFrom_68 (k9 : Nat → Int32 → Int64 → Int32 → Int32 → Int32 → zx_H → Option (Int32 × zx_H)) (p0 : Nat) (p1 : Int32) (p2 : Int64) (p3 : Int32) (p4 : Int32) (p5 : Int32) (p6 : Int32) (h : zx_H) : Option (Int32 × zx_H) :=
  zf_b (zf_A 2 2 p0 h) fun v1 =>
  zf_b (zf_ldJ v1 p4 h) fun v2 =>
  zf_b2 (f_Long_bitCount (p2 &&& v2) h) fun v3 h4 =>
  if ¬ v3 = (p5 + p6) then
    k9 p0 p1 p2 (p3 + (1 : Int32)) (p5 + p6) (p4 + (1 : Int32)) h4
  else
    k9 p0 p1 p2 (p3 + (0 : Int32)) (p5 + p6) (p4 + (1 : Int32)) h4
set_option maxHeartbeats 4000000 in
set_option maxRecDepth 400000 in
theorem t_f_Checks_failuresFrom_68 {sc : (Nat × (Nat → Int32)) × Bool} {d : Nat} {k9 : Nat → Int32 → Int64 → Int32 → Int32 → Int32 → zx_H → Option (Int32 × zx_H)} (hk9 : ∀ (a0 : Nat) (a1 : Int32) (a2 : Int64) (a3 : Int32) (a4 : Int32) (a5 : Int32) (h : zx_H) (r : Int32) (h' : zx_H), k9 a0 a1 a2 a3 a4 a5 h = some (r, h') → zx_T sc (d + 1) 255 (9, [(0, .ref a0), (1, .int a1), (2, .long a2), (4, .int a3), (5, .int a4), (6, .int a5)], []) h (zf_oI r) h') (p0 : Nat) (p1 : Int32) (p2 : Int64) (p3 : Int32) (p4 : Int32) (p5 : Int32) (p6 : Int32) (h : zx_H) (r : Int32) (h' : zx_H) (hf : f_Checks_failuresFrom_68 k9 p0 p1 p2 p3 p4 p5 p6 h = some (r, h')) : zx_T sc (d + 1) 255 (68, [(0, .ref p0), (1, .int p1), (2, .long p2), (4, .int p3), (6, .int p4)], [.int p6, .int p5]) h (zf_oI r) h' := by
  unfold f_Checks_failuresFrom_68 at hf
  refine zv_p (k := 5) (f' := (75, [(5, .int (p5 + p6)), (0, .ref p0), (1, .int p1), (2, .long p2), (4, .int p3), (6, .int p4)], [.ref p0, .long p2, .int p3])) zq_255 zo_255 (by with_unfolding_all rfl) ?_
  replace hf := zf_be hf
  obtain ⟨v1, hv, hf⟩ := hf
  refine zv_gf zq_255 zo_255 rfl rfl rfl (zf_Ae hv) ?_
  refine zv_p (k := 1) (f' := (80, [(5, .int (p5 + p6)), (0, .ref p0), (1, .int p1), (2, .long p2), (4, .int p3), (6, .int p4)], [.int p4, .ref v1, .long p2, .int p3])) zq_255 zo_255 (by with_unfolding_all rfl) ?_
  replace hf := zf_be hf
  obtain ⟨v2, hv, hf⟩ := hf
  refine zv_ldJ zq_255 zo_255 rfl hv ?_
  refine zv_p (k := 1) (f' := (82, [(5, .int (p5 + p6)), (0, .ref p0), (1, .int p1), (2, .long p2), (4, .int p3), (6, .int p4)], [.long (p2 &&& v2), .int p3])) zq_255 zo_255 (by with_unfolding_all rfl) ?_
  replace hf := zf_b2e hf
  obtain ⟨v3, h4, hv, hf⟩ := hf
  refine zv_c zq_255 zo_255 rfl rfl rfl rfl rfl rfl (t_f_Long_bitCount _ _ _ _ hv) ?_
  refine zv_p (k := 1) (f' := (87, [(5, .int (p5 + p6)), (0, .ref p0), (1, .int p1), (2, .long p2), (4, .int p3), (6, .int p4)], [.int (p5 + p6), .int v3, .int p3])) zq_255 zo_255 (by with_unfolding_all rfl) ?_
  replace hf := zf_ite hf
  obtain ⟨hc, hf⟩ | ⟨hc, hf⟩ := hf
  · refine zv_brT (off := 7) (tt := 94) (r := [.int p3]) zq_255 zo_255 hc rfl rfl rfl ?_
    refine zv_p (k := 5) (f' := (9, [(6, .int (p4 + (1 : Int32))), (4, .int (p3 + (1 : Int32))), (5, .int (p5 + p6)), (0, .ref p0), (1, .int p1), (2, .long p2)], [])) zq_255 zo_255 (by with_unfolding_all rfl) ?_
    refine zv_pick (lv' := [(0, .ref p0), (1, .int p1), (2, .long p2), (4, .int (p3 + (1 : Int32))), (5, .int (p5 + p6)), (6, .int (p4 + (1 : Int32)))]) [0, 1, 2, 4, 5, 6] rfl rfl ?_
    exact hk9 _ _ _ _ _ _ _ _ _ hf
  · refine zv_brF (off := 7) (tt := 94) (r := [.int p3]) zq_255 zo_255 hc rfl rfl rfl ?_
    refine zv_p (k := 6) (f' := (9, [(6, .int (p4 + (1 : Int32))), (4, .int (p3 + (0 : Int32))), (5, .int (p5 + p6)), (0, .ref p0), (1, .int p1), (2, .long p2)], [])) zq_255 zo_255 (by with_unfolding_all rfl) ?_
    refine zv_pick (lv' := [(0, .ref p0), (1, .int p1), (2, .long p2), (4, .int (p3 + (0 : Int32))), (5, .int (p5 + p6)), (6, .int (p4 + (1 : Int32)))]) [0, 1, 2, 4, 5, 6] rfl rfl ?_
    exact hk9 _ _ _ _ _ _ _ _ _ hf
set_option maxHeartbeats 1000000 in
def f_Checks_failuresFrom_9 : Nat → Nat → Int32 → Int64 → Int32 → Int32 → Int32 → zx_H → Option (Int32 × zx_H)
  | 0, _, _, _, _, _, _, _ => none
  | n + 1, p0, p1, p2, p3, p4, p5, h =>
    zf_b (zf_A 2 1 p0 h) fun v1 =>
    zf_b (zf_I 5 4 v1 h) fun v2 =>
    if v2 ≤ p5 then
      some (p3, h)
    else
      if (40 : Int32) ≤ p5 then
        some (p3, h)
      else
        zf_b (zf_A 2 1 p0 h) fun v3 =>
        zf_b (zf_is 5 v3 h) fun _ =>
        zf_b2 (f_Groups_keyOfGroup v3 p5 h) fun v4 h5 =>
        if v4 = (-9000000000 : Int64) then
          some (p3, h5)
        else
          if p1 ≤ p5 then
            zf_b (zf_A 2 1 p0 h5) fun v6 =>
            zf_b (zf_is 5 v6 h5) fun _ =>
            zf_b2 (f_Groups_rowsIn v6 p5 h5) fun v7 h8 =>
            zf_b2 (f_Long_bitCount v7 h8) fun v9 h10 =>
            f_Checks_failuresFrom_68 (f_Checks_failuresFrom_9 n) p0 p1 p2 p3 p5 p4 v9 h10
          else
            f_Checks_failuresFrom_68 (f_Checks_failuresFrom_9 n) p0 p1 p2 p3 p5 p4 (0 : Int32) h5
set_option maxHeartbeats 4000000 in
set_option maxRecDepth 400000 in
theorem t_f_Checks_failuresFrom_9 {sc : (Nat × (Nat → Int32)) × Bool} {d : Nat} : ∀ (n : Nat) (p0 : Nat) (p1 : Int32) (p2 : Int64) (p3 : Int32) (p4 : Int32) (p5 : Int32) (h : zx_H) (r : Int32) (h' : zx_H), f_Checks_failuresFrom_9 n p0 p1 p2 p3 p4 p5 h = some (r, h') → zx_T sc (d + 1) 255 (9, [(0, .ref p0), (1, .int p1), (2, .long p2), (4, .int p3), (5, .int p4), (6, .int p5)], []) h (zf_oI r) h' := by
  intro n
  induction n with
  | zero => intro p0 p1 p2 p3 p4 p5 h r h' hf; cases hf
  | succ n ih =>
    intro p0 p1 p2 p3 p4 p5 h r h' hf
    unfold f_Checks_failuresFrom_9 at hf
    refine zv_p (k := 2) (f' := (12, [(0, .ref p0), (1, .int p1), (2, .long p2), (4, .int p3), (5, .int p4), (6, .int p5)], [.ref p0, .int p5])) zq_255 zo_255 (by with_unfolding_all rfl) ?_
    replace hf := zf_be hf
    obtain ⟨v1, hv, hf⟩ := hf
    refine zv_gf zq_255 zo_255 rfl rfl rfl (zf_Ae hv) ?_
    replace hf := zf_be hf
    obtain ⟨v2, hv, hf⟩ := hf
    refine zv_gf zq_255 zo_255 rfl rfl rfl (zf_Ie hv) ?_
    replace hf := zf_ite hf
    obtain ⟨hc, hf⟩ | ⟨hc, hf⟩ := hf
    · refine zv_brT (off := 86) (tt := 104) (r := []) zq_255 zo_255 hc rfl rfl rfl ?_
      refine zv_p (k := 1) (f' := (106, [(0, .ref p0), (1, .int p1), (2, .long p2), (4, .int p3), (5, .int p4), (6, .int p5)], [.int p3])) zq_255 zo_255 (by with_unfolding_all rfl) ?_
      cases hf
      exact zv_rn zq_255 zo_255 rfl rfl
    · refine zv_brF (off := 86) (tt := 104) (r := []) zq_255 zo_255 hc rfl rfl rfl ?_
      refine zv_p (k := 2) (f' := (25, [(0, .ref p0), (1, .int p1), (2, .long p2), (4, .int p3), (5, .int p4), (6, .int p5)], [.int (40 : Int32), .int p5])) zq_255 zo_255 (by with_unfolding_all rfl) ?_
      replace hf := zf_ite hf
      obtain ⟨hc, hf⟩ | ⟨hc, hf⟩ := hf
      · refine zv_brT (off := 79) (tt := 104) (r := []) zq_255 zo_255 hc rfl rfl rfl ?_
        refine zv_p (k := 1) (f' := (106, [(0, .ref p0), (1, .int p1), (2, .long p2), (4, .int p3), (5, .int p4), (6, .int p5)], [.int p3])) zq_255 zo_255 (by with_unfolding_all rfl) ?_
        cases hf
        exact zv_rn zq_255 zo_255 rfl rfl
      · refine zv_brF (off := 79) (tt := 104) (r := []) zq_255 zo_255 hc rfl rfl rfl ?_
        refine zv_p (k := 1) (f' := (29, [(0, .ref p0), (1, .int p1), (2, .long p2), (4, .int p3), (5, .int p4), (6, .int p5)], [.ref p0])) zq_255 zo_255 (by with_unfolding_all rfl) ?_
        replace hf := zf_be hf
        obtain ⟨v3, hv, hf⟩ := hf
        refine zv_gf zq_255 zo_255 rfl rfl rfl (zf_Ae hv) ?_
        refine zv_p (k := 1) (f' := (34, [(0, .ref p0), (1, .int p1), (2, .long p2), (4, .int p3), (5, .int p4), (6, .int p5)], [.int p5, .ref v3])) zq_255 zo_255 (by with_unfolding_all rfl) ?_
        replace hf := zf_be hf
        obtain ⟨_, ho, hf⟩ := hf
        replace hf := zf_b2e hf
        obtain ⟨v4, h5, hv, hf⟩ := hf
        refine zv_c zq_255 zo_255 rfl rfl rfl rfl rfl (zv_cv rfl rfl rfl (zf_ise ho) rfl) (t_f_Groups_keyOfGroup _ _ _ _ _ hv) ?_
        refine zv_lng zq_255 zo_255 rfl rfl ?_
        refine zv_p (k := 1) (f' := (41, [(0, .ref p0), (1, .int p1), (2, .long p2), (4, .int p3), (5, .int p4), (6, .int p5)], [.int (lg_cmp v4 (-9000000000 : Int64))])) zq_255 zo_255 (by with_unfolding_all rfl) ?_
        replace hf := zf_ite hf
        obtain ⟨hc, hf⟩ | ⟨hc, hf⟩ := hf
        · refine zv_brT (off := 63) (tt := 104) (r := []) zq_255 zo_255 (zl_eq.mpr hc) rfl rfl rfl ?_
          refine zv_p (k := 1) (f' := (106, [(0, .ref p0), (1, .int p1), (2, .long p2), (4, .int p3), (5, .int p4), (6, .int p5)], [.int p3])) zq_255 zo_255 (by with_unfolding_all rfl) ?_
          cases hf
          exact zv_rn zq_255 zo_255 rfl rfl
        · refine zv_brF (off := 63) (tt := 104) (r := []) zq_255 zo_255 (mt zl_eq.mp hc) rfl rfl rfl ?_
          refine zv_p (k := 3) (f' := (49, [(0, .ref p0), (1, .int p1), (2, .long p2), (4, .int p3), (5, .int p4), (6, .int p5)], [.int p1, .int p5, .int p4])) zq_255 zo_255 (by with_unfolding_all rfl) ?_
          replace hf := zf_ite hf
          obtain ⟨hc, hf⟩ | ⟨hc, hf⟩ := hf
          · refine zv_brT (off := 7) (tt := 56) (r := [.int p4]) zq_255 zo_255 hc rfl rfl rfl ?_
            refine zv_p (k := 1) (f' := (57, [(0, .ref p0), (1, .int p1), (2, .long p2), (4, .int p3), (5, .int p4), (6, .int p5)], [.ref p0, .int p4])) zq_255 zo_255 (by with_unfolding_all rfl) ?_
            replace hf := zf_be hf
            obtain ⟨v6, hv, hf⟩ := hf
            refine zv_gf zq_255 zo_255 rfl rfl rfl (zf_Ae hv) ?_
            refine zv_p (k := 1) (f' := (62, [(0, .ref p0), (1, .int p1), (2, .long p2), (4, .int p3), (5, .int p4), (6, .int p5)], [.int p5, .ref v6, .int p4])) zq_255 zo_255 (by with_unfolding_all rfl) ?_
            replace hf := zf_be hf
            obtain ⟨_, ho, hf⟩ := hf
            replace hf := zf_b2e hf
            obtain ⟨v7, h8, hv, hf⟩ := hf
            refine zv_c zq_255 zo_255 rfl rfl rfl rfl rfl (zv_cv rfl rfl rfl (zf_ise ho) rfl) (t_f_Groups_rowsIn _ _ _ _ _ hv) ?_
            replace hf := zf_b2e hf
            obtain ⟨v9, h10, hv, hf⟩ := hf
            refine zv_c zq_255 zo_255 rfl rfl rfl rfl rfl rfl (t_f_Long_bitCount _ _ _ _ hv) ?_
            refine zv_pick (lv' := [(0, .ref p0), (1, .int p1), (2, .long p2), (4, .int p3), (6, .int p5)]) [0, 1, 2, 4, 6] rfl rfl ?_
            exact t_f_Checks_failuresFrom_68 ih _ _ _ _ _ _ _ _ _ _ hf
          · refine zv_brF (off := 7) (tt := 56) (r := [.int p4]) zq_255 zo_255 hc rfl rfl rfl ?_
            refine zv_p (k := 2) (f' := (68, [(0, .ref p0), (1, .int p1), (2, .long p2), (4, .int p3), (5, .int p4), (6, .int p5)], [.int (0 : Int32), .int p4])) zq_255 zo_255 (by with_unfolding_all rfl) ?_
            refine zv_pick (lv' := [(0, .ref p0), (1, .int p1), (2, .long p2), (4, .int p3), (6, .int p5)]) [0, 1, 2, 4, 6] rfl rfl ?_
            exact t_f_Checks_failuresFrom_68 ih _ _ _ _ _ _ _ _ _ _ hf
set_option maxHeartbeats 1000000 in
def f_Checks_failuresFrom (p0 : Nat) (p1 : Int32) (p2 : Int64) (h : zx_H) : Option (Int32 × zx_H) :=
  f_Checks_failuresFrom_9 zF p0 p1 p2 (0 : Int32) (0 : Int32) (0 : Int32) h
set_option maxHeartbeats 4000000 in
set_option maxRecDepth 400000 in
theorem t_f_Checks_failuresFrom {sc : (Nat × (Nat → Int32)) × Bool} {d : Nat} (p0 : Nat) (p1 : Int32) (p2 : Int64) (h : zx_H) (r : Int32) (h' : zx_H) (hf : f_Checks_failuresFrom p0 p1 p2 h = some (r, h')) : zx_T sc (d + 1) 255 (0, [(0, .ref p0), (1, .int p1), (2, .long p2)], []) h (zf_oI r) h' := by
  unfold f_Checks_failuresFrom at hf
  refine zv_p (k := 6) (f' := (9, [(6, .int (0 : Int32)), (5, .int (0 : Int32)), (4, .int (0 : Int32)), (0, .ref p0), (1, .int p1), (2, .long p2)], [])) zq_255 zo_255 (by with_unfolding_all rfl) ?_
  refine zv_pick (lv' := [(0, .ref p0), (1, .int p1), (2, .long p2), (4, .int (0 : Int32)), (5, .int (0 : Int32)), (6, .int (0 : Int32))]) [0, 1, 2, 4, 5, 6] rfl rfl ?_
  exact t_f_Checks_failuresFrom_9 zF _ _ _ _ _ _ _ _ _ hf
/-! ColumnVault$Checks.rangeFailures (LColumnVault$Sheet;I)I -/
noncomputable def zI_254 : zd_T := [[(0, .aload_n 0, 1), (1, .getfield 12, 3), (4, .aload_n 1, 1), (5, .invokevirtual 44, 3), (8, .aload_n 0, 1), (9, .getfield 12, 3), (12, .aload_n 0, 1), (13, .getfield 12, 3), (16, .invokevirtual 67, 3), (19, .putfield 98, 3), (22, .aload_n 0, 1), (23, .getfield 21, 3), (26, .aload_n 0, 1), (27, .getfield 12, 3), (30, .iload_n 2, 1), (31, .invokevirtual 82, 3)], [(34, .iconst 0, 1), (35, .istore_n 3, 1), (36, .iload_n 3, 1), (37, .aload_n 0, 1), (38, .getfield 21, 3), (41, .getfield 86, 3), (44, .if_icmp .ge 37, 3), (47, .iload_n 3, 1), (48, .bipush 40, 2), (50, .if_icmp .ge 31, 3), (53, .aload_n 0, 1), (54, .getfield 25, 3), (57, .iload_n 3, 1), (58, .aload_n 1, 1), (59, .iload_n 2, 1), (60, .ldc2_w 115, 3), (63, .aload_n 0, 1)], [(64, .getfield 21, 3), (67, .iload_n 3, 1), (68, .invokevirtual 117, 3), (71, .invokevirtual 120, 3), (74, .lastore, 1), (75, .iinc 3 1, 3), (78, .goto (-42), 3), (81, .iconst 0, 1), (82, .istore_n 3, 1), (83, .iconst 0, 1), (84, .istore 4, 2), (86, .iload 4, 2), (88, .aload_n 0, 1), (89, .getfield 21, 3), (92, .getfield 86, 3), (95, .if_icmp .ge 51, 3)], [(98, .aload_n 0, 1), (99, .getfield 21, 3), (102, .iload 4, 2), (104, .invokevirtual 117, 3), (107, .ldc2_w 124, 3), (110, .lcmp, 1), (111, .ifCond .eq 29, 3), (114, .iload_n 3, 1), (115, .aload_n 0, 1), (116, .iload 4, 2), (118, .aload_n 1, 1), (119, .iload_n 2, 1), (120, .aload_n 0, 1), (121, .getfield 21, 3), (124, .iload 4, 2), (126, .invokevirtual 117, 3)], [(129, .ldc2_w 126, 3), (132, .invokevirtual 120, 3), (135, .invokevirtual 128, 3), (138, .iadd, 1), (139, .istore_n 3, 1), (140, .iinc 4 1, 3), (143, .goto (-57), 3), (146, .iload_n 3, 1), (147, .ireturn, 1)]]
theorem zo_254 : zd_of 254 = some zI_254 := rfl
set_option maxRecDepth 100000 in
theorem zq_254 : zt_m[254]? = some (⟨"ColumnVault$Checks", "rangeFailures", "(LColumnVault$Sheet;I)I"⟩, prog_2_method_7_code, 5, some (.int), [], 2, 2, 0, 0, 0, 0) := rfl
set_option maxHeartbeats 1000000 in
def f_Checks_rangeFailures_86 : Nat → Nat → Nat → Int32 → Int32 → Int32 → zx_H → Option (Int32 × zx_H)
  | 0, _, _, _, _, _, _ => none
  | n + 1, p0, p1, p2, p3, p4, h =>
    zf_b (zf_A 2 1 p0 h) fun v1 =>
    zf_b (zf_I 5 4 v1 h) fun v2 =>
    if v2 ≤ p4 then
      some (p3, h)
    else
      zf_b (zf_A 2 1 p0 h) fun v3 =>
      zf_b (zf_is 5 v3 h) fun _ =>
      zf_b2 (f_Groups_keyOfGroup v3 p4 h) fun v4 h5 =>
      if v4 = (-9000000000 : Int64) then
        (f_Checks_rangeFailures_86 n) p0 p1 p2 p3 (p4 + (1 : Int32)) h5
      else
        zf_b (zf_A 2 1 p0 h5) fun v6 =>
        zf_b (zf_is 5 v6 h5) fun _ =>
        zf_b2 (f_Groups_keyOfGroup v6 p4 h5) fun v7 h8 =>
        zf_b (zf_is 10 p1 h8) fun _ =>
        zf_b2 (f_Sheet_rowsFromTo p1 p2 v7 (9223372036854775807 : Int64) h8) fun v9 h10 =>
        zf_b (zf_is 2 p0 h10) fun _ =>
        zf_b2 (f_Checks_failuresFrom p0 p4 v9 h10) fun v11 h12 =>
        (f_Checks_rangeFailures_86 n) p0 p1 p2 (p3 + v11) (p4 + (1 : Int32)) h12
set_option maxHeartbeats 4000000 in
set_option maxRecDepth 400000 in
theorem t_f_Checks_rangeFailures_86 {sc : (Nat × (Nat → Int32)) × Bool} {d : Nat} : ∀ (n : Nat) (p0 : Nat) (p1 : Nat) (p2 : Int32) (p3 : Int32) (p4 : Int32) (h : zx_H) (r : Int32) (h' : zx_H), f_Checks_rangeFailures_86 n p0 p1 p2 p3 p4 h = some (r, h') → zx_T sc (d + 3) 254 (86, [(0, .ref p0), (1, .ref p1), (2, .int p2), (3, .int p3), (4, .int p4)], []) h (zf_oI r) h' := by
  intro n
  induction n with
  | zero => intro p0 p1 p2 p3 p4 h r h' hf; cases hf
  | succ n ih =>
    intro p0 p1 p2 p3 p4 h r h' hf
    unfold f_Checks_rangeFailures_86 at hf
    refine zv_p (k := 2) (f' := (89, [(0, .ref p0), (1, .ref p1), (2, .int p2), (3, .int p3), (4, .int p4)], [.ref p0, .int p4])) zq_254 zo_254 (by with_unfolding_all rfl) ?_
    replace hf := zf_be hf
    obtain ⟨v1, hv, hf⟩ := hf
    refine zv_gf zq_254 zo_254 rfl rfl rfl (zf_Ae hv) ?_
    replace hf := zf_be hf
    obtain ⟨v2, hv, hf⟩ := hf
    refine zv_gf zq_254 zo_254 rfl rfl rfl (zf_Ie hv) ?_
    replace hf := zf_ite hf
    obtain ⟨hc, hf⟩ | ⟨hc, hf⟩ := hf
    · refine zv_brT (off := 51) (tt := 146) (r := []) zq_254 zo_254 hc rfl rfl rfl ?_
      refine zv_p (k := 1) (f' := (147, [(0, .ref p0), (1, .ref p1), (2, .int p2), (3, .int p3), (4, .int p4)], [.int p3])) zq_254 zo_254 (by with_unfolding_all rfl) ?_
      cases hf
      exact zv_rn zq_254 zo_254 rfl rfl
    · refine zv_brF (off := 51) (tt := 146) (r := []) zq_254 zo_254 hc rfl rfl rfl ?_
      refine zv_p (k := 1) (f' := (99, [(0, .ref p0), (1, .ref p1), (2, .int p2), (3, .int p3), (4, .int p4)], [.ref p0])) zq_254 zo_254 (by with_unfolding_all rfl) ?_
      replace hf := zf_be hf
      obtain ⟨v3, hv, hf⟩ := hf
      refine zv_gf zq_254 zo_254 rfl rfl rfl (zf_Ae hv) ?_
      refine zv_p (k := 1) (f' := (104, [(0, .ref p0), (1, .ref p1), (2, .int p2), (3, .int p3), (4, .int p4)], [.int p4, .ref v3])) zq_254 zo_254 (by with_unfolding_all rfl) ?_
      replace hf := zf_be hf
      obtain ⟨_, ho, hf⟩ := hf
      replace hf := zf_b2e hf
      obtain ⟨v4, h5, hv, hf⟩ := hf
      refine zv_c zq_254 zo_254 rfl rfl rfl rfl rfl (zv_cv rfl rfl rfl (zf_ise ho) rfl) (t_f_Groups_keyOfGroup _ _ _ _ _ hv) ?_
      refine zv_lng zq_254 zo_254 rfl rfl ?_
      refine zv_p (k := 1) (f' := (111, [(0, .ref p0), (1, .ref p1), (2, .int p2), (3, .int p3), (4, .int p4)], [.int (lg_cmp v4 (-9000000000 : Int64))])) zq_254 zo_254 (by with_unfolding_all rfl) ?_
      replace hf := zf_ite hf
      obtain ⟨hc, hf⟩ | ⟨hc, hf⟩ := hf
      · refine zv_brT (off := 29) (tt := 140) (r := []) zq_254 zo_254 (zl_eq.mpr hc) rfl rfl rfl ?_
        refine zv_p (k := 2) (f' := (86, [(4, .int (p4 + (1 : Int32))), (0, .ref p0), (1, .ref p1), (2, .int p2), (3, .int p3)], [])) zq_254 zo_254 (by with_unfolding_all rfl) ?_
        refine zv_pick (lv' := [(0, .ref p0), (1, .ref p1), (2, .int p2), (3, .int p3), (4, .int (p4 + (1 : Int32)))]) [0, 1, 2, 3, 4] rfl rfl ?_
        exact ih _ _ _ _ _ _ _ _ hf
      · refine zv_brF (off := 29) (tt := 140) (r := []) zq_254 zo_254 (mt zl_eq.mp hc) rfl rfl rfl ?_
        refine zv_p (k := 6) (f' := (121, [(0, .ref p0), (1, .ref p1), (2, .int p2), (3, .int p3), (4, .int p4)], [.ref p0, .int p2, .ref p1, .int p4, .ref p0, .int p3])) zq_254 zo_254 (by with_unfolding_all rfl) ?_
        replace hf := zf_be hf
        obtain ⟨v6, hv, hf⟩ := hf
        refine zv_gf zq_254 zo_254 rfl rfl rfl (zf_Ae hv) ?_
        refine zv_p (k := 1) (f' := (126, [(0, .ref p0), (1, .ref p1), (2, .int p2), (3, .int p3), (4, .int p4)], [.int p4, .ref v6, .int p2, .ref p1, .int p4, .ref p0, .int p3])) zq_254 zo_254 (by with_unfolding_all rfl) ?_
        replace hf := zf_be hf
        obtain ⟨_, ho, hf⟩ := hf
        replace hf := zf_b2e hf
        obtain ⟨v7, h8, hv, hf⟩ := hf
        refine zv_c zq_254 zo_254 rfl rfl rfl rfl rfl (zv_cv rfl rfl rfl (zf_ise ho) rfl) (t_f_Groups_keyOfGroup _ _ _ _ _ hv) ?_
        refine zv_lng zq_254 zo_254 rfl rfl ?_
        replace hf := zf_be hf
        obtain ⟨_, ho, hf⟩ := hf
        replace hf := zf_b2e hf
        obtain ⟨v9, h10, hv, hf⟩ := hf
        refine zv_c zq_254 zo_254 rfl rfl rfl rfl rfl (zv_cv rfl rfl rfl (zf_ise ho) rfl) (t_f_Sheet_rowsFromTo _ _ _ _ _ _ _ hv) ?_
        replace hf := zf_be hf
        obtain ⟨_, ho, hf⟩ := hf
        replace hf := zf_b2e hf
        obtain ⟨v11, h12, hv, hf⟩ := hf
        refine zv_c zq_254 zo_254 rfl rfl rfl rfl rfl (zv_cv rfl rfl rfl (zf_ise ho) rfl) (t_f_Checks_failuresFrom _ _ _ _ _ _ hv) ?_
        refine zv_p (k := 4) (f' := (86, [(4, .int (p4 + (1 : Int32))), (3, .int (p3 + v11)), (0, .ref p0), (1, .ref p1), (2, .int p2)], [])) zq_254 zo_254 (by with_unfolding_all rfl) ?_
        refine zv_pick (lv' := [(0, .ref p0), (1, .ref p1), (2, .int p2), (3, .int (p3 + v11)), (4, .int (p4 + (1 : Int32)))]) [0, 1, 2, 3, 4] rfl rfl ?_
        exact ih _ _ _ _ _ _ _ _ hf
