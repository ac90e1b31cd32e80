set_option maxHeartbeats 1000000 in
def f_Integer_getChars_22 : Nat → Int32 → Nat → Int32 → Int32 → zx_H → Option (Int32 × zx_H)
  | 0, _, _, _, _, _ => none
  | n + 1, p0, p1, p2, p3, h =>
    if (-100 : Int32) < p0 then
      zf_b (zf_ldB (zx_lim + 1 + 800) (-p0) h) fun v1 =>
      zf_b (zf_stB p1 (p2 + (-1 : Int32)) v1 h) fun h2 =>
      if (-9 : Int32) ≤ p0 then
        f_Integer_getChars_104 p1 (p2 + (-1 : Int32)) p3 h2
      else
        zf_b (zf_ldB (zx_lim + 1 + 801) (-p0) h2) fun v3 =>
        zf_b (zf_stB p1 ((p2 + (-1 : Int32)) + (-1 : Int32)) v3 h2) fun h4 =>
        f_Integer_getChars_104 p1 ((p2 + (-1 : Int32)) + (-1 : Int32)) p3 h4
    else
      zf_b (zf_ldB (zx_lim + 1 + 800) (((p0 / (100 : Int32)) * (100 : Int32)) - p0) h) fun v5 =>
      zf_b (zf_stB p1 (p2 + (-1 : Int32)) v5 h) fun h6 =>
      zf_b (zf_ldB (zx_lim + 1 + 801) (((p0 / (100 : Int32)) * (100 : Int32)) - p0) h6) fun v7 =>
      zf_b (zf_stB p1 ((p2 + (-1 : Int32)) + (-1 : Int32)) v7 h6) fun h8 =>
      (f_Integer_getChars_22 n) (p0 / (100 : Int32)) p1 ((p2 + (-1 : Int32)) + (-1 : Int32)) p3 h8
set_option maxHeartbeats 4000000 in
set_option maxRecDepth 400000 in
theorem t_f_Integer_getChars_22 {sc : (Nat × (Nat → Int32)) × Bool} {d : Nat} : ∀ (n : Nat) (p0 : Int32) (p1 : Nat) (p2 : Int32) (p3 : Int32) (h : zx_H) (r : Int32) (h' : zx_H), f_Integer_getChars_22 n p0 p1 p2 p3 h = some (r, h') → zx_T sc d 169 (22, [(0, .int p0), (2, .ref p1), (5, .int p2), (6, .int p3)], []) h (zf_oI r) h' := by
  intro n
  induction n with
  | zero => intro p0 p1 p2 p3 h r h' hf; cases hf
  | succ n ih =>
    intro p0 p1 p2 p3 h r h' hf
    unfold f_Integer_getChars_22 at hf
    refine zv_p (k := 2) (f' := (25, [(0, .int p0), (2, .ref p1), (5, .int p2), (6, .int p3)], [.int (-100 : Int32), .int p0])) zq_169 zo_169 (by with_unfolding_all rfl) ?_
    replace hf := zf_ite hf
    obtain ⟨hc, hf⟩ | ⟨hc, hf⟩ := hf
    · refine zv_brT (off := 47) (tt := 72) (r := []) zq_169 zo_169 hc rfl rfl rfl ?_
      refine zv_p (k := 3) (f' := (78, [(5, .int (p2 + (-1 : Int32))), (0, .int p0), (2, .ref p1), (6, .int p3)], [.int (p2 + (-1 : Int32)), .ref p1])) zq_169 zo_169 (by with_unfolding_all rfl) ?_
      refine zv_gs zq_169 zo_169 rfl rfl rfl ?_
      refine zv_p (k := 2) (f' := (83, [(5, .int (p2 + (-1 : Int32))), (0, .int p0), (2, .ref p1), (6, .int p3)], [.int (-p0), .ref (zx_lim + 1 + 800), .int (p2 + (-1 : Int32)), .ref p1])) zq_169 zo_169 (by with_unfolding_all rfl) ?_
      replace hf := zf_be hf
      obtain ⟨v1, hv, hf⟩ := hf
      refine zv_ldB zq_169 zo_169 rfl hv ?_
      replace hf := zf_be hf
      obtain ⟨h2, hv, hf⟩ := hf
      refine zv_stB zq_169 zo_169 rfl hv ?_
      refine zv_p (k := 2) (f' := (88, [(5, .int (p2 + (-1 : Int32))), (0, .int p0), (2, .ref p1), (6, .int p3)], [.int (-9 : Int32), .int p0])) zq_169 zo_169 (by with_unfolding_all rfl) ?_
      replace hf := zf_ite hf
      obtain ⟨hc, hf⟩ | ⟨hc, hf⟩ := hf
      · refine zv_brT (off := 16) (tt := 104) (r := []) zq_169 zo_169 hc rfl rfl rfl ?_
        refine zv_pick (lv' := [(2, .ref p1), (5, .int (p2 + (-1 : Int32))), (6, .int p3)]) [2, 5, 6] rfl rfl ?_
        exact t_f_Integer_getChars_104 _ _ _ _ _ _ hf
      · refine zv_brF (off := 16) (tt := 104) (r := []) zq_169 zo_169 hc rfl rfl rfl ?_
        refine zv_p (k := 3) (f' := (97, [(5, .int ((p2 + (-1 : Int32)) + (-1 : Int32))), (0, .int p0), (2, .ref p1), (6, .int p3)], [.int ((p2 + (-1 : Int32)) + (-1 : Int32)), .ref p1])) zq_169 zo_169 (by with_unfolding_all rfl) ?_
        refine zv_gs zq_169 zo_169 rfl rfl rfl ?_
        refine zv_p (k := 2) (f' := (102, [(5, .int ((p2 + (-1 : Int32)) + (-1 : Int32))), (0, .int p0), (2, .ref p1), (6, .int p3)], [.int (-p0), .ref (zx_lim + 1 + 801), .int ((p2 + (-1 : Int32)) + (-1 : Int32)), .ref p1])) zq_169 zo_169 (by with_unfolding_all rfl) ?_
        replace hf := zf_be hf
        obtain ⟨v3, hv, hf⟩ := hf
        refine zv_ldB zq_169 zo_169 rfl hv ?_
        replace hf := zf_be hf
        obtain ⟨h4, hv, hf⟩ := hf
        refine zv_stB zq_169 zo_169 rfl hv ?_
        refine zv_pick (lv' := [(2, .ref p1), (5, .int ((p2 + (-1 : Int32)) + (-1 : Int32))), (6, .int p3)]) [2, 5, 6] rfl rfl ?_
        exact t_f_Integer_getChars_104 _ _ _ _ _ _ hf
    · refine zv_brF (off := 47) (tt := 72) (r := []) zq_169 zo_169 hc rfl rfl rfl ?_
      refine zv_p (k := 8) (f' := (38, [(3, .int (p0 / (100 : Int32))), (0, .int p0), (2, .ref p1), (5, .int p2), (6, .int p3)], [.int p0, .int ((p0 / (100 : Int32)) * (100 : Int32))])) zq_169 zo_169 (by with_unfolding_all rfl) ?_
      refine zv_p (k := 7) (f' := (49, [(5, .int (p2 + (-1 : Int32))), (0, .int (p0 / (100 : Int32))), (4, .int (((p0 / (100 : Int32)) * (100 : Int32)) - p0)), (3, .int (p0 / (100 : Int32))), (2, .ref p1), (6, .int p3)], [.int (p2 + (-1 : Int32)), .ref p1])) zq_169 zo_169 (by with_unfolding_all rfl) ?_
      refine zv_gs zq_169 zo_169 rfl rfl rfl ?_
      refine zv_p (k := 1) (f' := (54, [(5, .int (p2 + (-1 : Int32))), (0, .int (p0 / (100 : Int32))), (4, .int (((p0 / (100 : Int32)) * (100 : Int32)) - p0)), (3, .int (p0 / (100 : Int32))), (2, .ref p1), (6, .int p3)], [.int (((p0 / (100 : Int32)) * (100 : Int32)) - p0), .ref (zx_lim + 1 + 800), .int (p2 + (-1 : Int32)), .ref p1])) zq_169 zo_169 (by with_unfolding_all rfl) ?_
      replace hf := zf_be hf
      obtain ⟨v5, hv, hf⟩ := hf
      refine zv_ldB zq_169 zo_169 rfl hv ?_
      replace hf := zf_be hf
      obtain ⟨h6, hv, hf⟩ := hf
      refine zv_stB zq_169 zo_169 rfl hv ?_
      refine zv_p (k := 3) (f' := (62, [(5, .int ((p2 + (-1 : Int32)) + (-1 : Int32))), (0, .int (p0 / (100 : Int32))), (4, .int (((p0 / (100 : Int32)) * (100 : Int32)) - p0)), (3, .int (p0 / (100 : Int32))), (2, .ref p1), (6, .int p3)], [.int ((p2 + (-1 : Int32)) + (-1 : Int32)), .ref p1])) zq_169 zo_169 (by with_unfolding_all rfl) ?_
      refine zv_gs zq_169 zo_169 rfl rfl rfl ?_
      refine zv_p (k := 1) (f' := (67, [(5, .int ((p2 + (-1 : Int32)) + (-1 : Int32))), (0, .int (p0 / (100 : Int32))), (4, .int (((p0 / (100 : Int32)) * (100 : Int32)) - p0)), (3, .int (p0 / (100 : Int32))), (2, .ref p1), (6, .int p3)], [.int (((p0 / (100 : Int32)) * (100 : Int32)) - p0), .ref (zx_lim + 1 + 801), .int ((p2 + (-1 : Int32)) + (-1 : Int32)), .ref p1])) zq_169 zo_169 (by with_unfolding_all rfl) ?_
      replace hf := zf_be hf
      obtain ⟨v7, hv, hf⟩ := hf
      refine zv_ldB zq_169 zo_169 rfl hv ?_
      replace hf := zf_be hf
      obtain ⟨h8, hv, hf⟩ := hf
      refine zv_stB zq_169 zo_169 rfl hv ?_
      refine zv_p (k := 1) (f' := (22, [(5, .int ((p2 + (-1 : Int32)) + (-1 : Int32))), (0, .int (p0 / (100 : Int32))), (4, .int (((p0 / (100 : Int32)) * (100 : Int32)) - p0)), (3, .int (p0 / (100 : Int32))), (2, .ref p1), (6, .int p3)], [])) zq_169 zo_169 (by with_unfolding_all rfl) ?_
      refine zv_pick (lv' := [(0, .int (p0 / (100 : Int32))), (2, .ref p1), (5, .int ((p2 + (-1 : Int32)) + (-1 : Int32))), (6, .int p3)]) [0, 2, 5, 6] rfl rfl ?_
      exact ih _ _ _ _ _ _ _ hf
set_option maxHeartbeats 1000000 in
def f_Integer_getChars (p0 : Int32) (p1 : Int32) (p2 : Nat) (h : zx_H) : Option (Int32 × zx_H) :=
  if 0 ≤ p0 then
    if ¬ (0 : Int32) = 0 then
      f_Integer_getChars_22 zF p0 p2 p1 (0 : Int32) h
    else
      f_Integer_getChars_22 zF (-p0) p2 p1 (0 : Int32) h
  else
    if ¬ (1 : Int32) = 0 then
      f_Integer_getChars_22 zF p0 p2 p1 (1 : Int32) h
    else
      f_Integer_getChars_22 zF (-p0) p2 p1 (1 : Int32) h
set_option maxHeartbeats 4000000 in
set_option maxRecDepth 400000 in
theorem t_f_Integer_getChars {sc : (Nat × (Nat → Int32)) × Bool} {d : Nat} (p0 : Int32) (p1 : Int32) (p2 : Nat) (h : zx_H) (r : Int32) (h' : zx_H) (hf : f_Integer_getChars p0 p1 p2 h = some (r, h')) : zx_T sc d 169 (0, [(0, .int p0), (1, .int p1), (2, .ref p2)], []) h (zf_oI r) h' := by
  unfold f_Integer_getChars at hf
  refine zv_p (k := 3) (f' := (4, [(5, .int p1), (0, .int p0), (1, .int p1), (2, .ref p2)], [.int p0])) zq_169 zo_169 (by with_unfolding_all rfl) ?_
  replace hf := zf_ite hf
  obtain ⟨hc, hf⟩ | ⟨hc, hf⟩ := hf
  · refine zv_brT (off := 7) (tt := 11) (r := []) zq_169 zo_169 hc rfl rfl rfl ?_
    refine zv_p (k := 3) (f' := (16, [(6, .int (0 : Int32)), (5, .int p1), (0, .int p0), (1, .int p1), (2, .ref p2)], [.int (0 : Int32)])) zq_169 zo_169 (by with_unfolding_all rfl) ?_
    replace hf := zf_ite hf
    obtain ⟨hc, hf⟩ | ⟨hc, hf⟩ := hf
    · refine zv_brT (off := 6) (tt := 22) (r := []) zq_169 zo_169 hc rfl rfl rfl ?_
      refine zv_pick (lv' := [(0, .int p0), (2, .ref p2), (5, .int p1), (6, .int (0 : Int32))]) [0, 2, 5, 6] rfl rfl ?_
      exact t_f_Integer_getChars_22 zF _ _ _ _ _ _ _ hf
    · refine zv_brF (off := 6) (tt := 22) (r := []) zq_169 zo_169 hc rfl rfl rfl ?_
      refine zv_p (k := 3) (f' := (22, [(0, .int (-p0)), (6, .int (0 : Int32)), (5, .int p1), (1, .int p1), (2, .ref p2)], [])) zq_169 zo_169 (by with_unfolding_all rfl) ?_
      refine zv_pick (lv' := [(0, .int (-p0)), (2, .ref p2), (5, .int p1), (6, .int (0 : Int32))]) [0, 2, 5, 6] rfl rfl ?_
      exact t_f_Integer_getChars_22 zF _ _ _ _ _ _ _ hf
  · refine zv_brF (off := 7) (tt := 11) (r := []) zq_169 zo_169 hc rfl rfl rfl ?_
    refine zv_p (k := 4) (f' := (16, [(6, .int (1 : Int32)), (5, .int p1), (0, .int p0), (1, .int p1), (2, .ref p2)], [.int (1 : Int32)])) zq_169 zo_169 (by with_unfolding_all rfl) ?_
    replace hf := zf_ite hf
    obtain ⟨hc, hf⟩ | ⟨hc, hf⟩ := hf
    · refine zv_brT (off := 6) (tt := 22) (r := []) zq_169 zo_169 hc rfl rfl rfl ?_
      refine zv_pick (lv' := [(0, .int p0), (2, .ref p2), (5, .int p1), (6, .int (1 : Int32))]) [0, 2, 5, 6] rfl rfl ?_
      exact t_f_Integer_getChars_22 zF _ _ _ _ _ _ _ hf
    · refine zv_brF (off := 6) (tt := 22) (r := []) zq_169 zo_169 hc rfl rfl rfl ?_
      refine zv_p (k := 3) (f' := (22, [(0, .int (-p0)), (6, .int (1 : Int32)), (5, .int p1), (1, .int p1), (2, .ref p2)], [])) zq_169 zo_169 (by with_unfolding_all rfl) ?_
      refine zv_pick (lv' := [(0, .int (-p0)), (2, .ref p2), (5, .int p1), (6, .int (1 : Int32))]) [0, 2, 5, 6] rfl rfl ?_
      exact t_f_Integer_getChars_22 zF _ _ _ _ _ _ _ hf
/-! AbstractStringBuilder.append (I)Ljava/lang/AbstractStringBuilder; -/
noncomputable def zI_167 : zd_T := [[(0, .aload_n 0, 1), (1, .getfield 79, 3), (4, .istore_n 2, 1), (5, .iload_n 2, 1), (6, .iload_n 1, 1), (7, .invokestatic 245, 3), (10, .iadd, 1), (11, .istore_n 3, 1), (12, .aload_n 0, 1), (13, .iload_n 3, 1), (14, .invokevirtual 100, 3), (17, .aload_n 0, 1), (18, .invokevirtual 83, 3), (21, .ifCond .eq 16, 3), (24, .iload_n 1, 1), (25, .iload_n 3, 1), (26, .aload_n 0, 1), (27, .getfield 15, 3), (30, .invokestatic 248, 3)], [(33, .pop, 1), (34, .goto 14, 3), (37, .iload_n 1, 1), (38, .iload_n 2, 1), (39, .iload_n 3, 1), (40, .aload_n 0, 1), (41, .getfield 15, 3), (44, .invokestatic 251, 3), (47, .pop, 1), (48, .aload_n 0, 1), (49, .iload_n 3, 1), (50, .putfield 79, 3), (53, .aload_n 0, 1), (54, .areturn, 1)]]
theorem zo_167 : zd_of 167 = some zI_167 := rfl
set_option maxRecDepth 100000 in
theorem zq_167 : zt_m[167]? = some (⟨"java/lang/AbstractStringBuilder", "append", "(I)Ljava/lang/AbstractStringBuilder;"⟩, prog_17_method_32_code, 4, some (.object "java/lang/AbstractStringBuilder"), [], 20, 1, 0, 0, 99999, 0) := rfl
set_option maxHeartbeats 1000000 in
def f_AbstractStringBuilder_appendq2 (p0 : Nat) (p1 : Int32) (h : zx_H) : Option (Nat × zx_H) :=
  zf_b (zf_I 1 3 p0 h) fun v1 =>
  zf_b2 (f_Integer_stringSize p1 h) fun v2 h3 =>
  zf_b (zf_is 1 p0 h3) fun _ =>
  zf_b2 (f_AbstractStringBuilder_ensureCapacityInternal p0 (v1 + v2) h3) fun _ h5 =>
  zf_b2 (fv_0 p0 h5) fun v6 h7 =>
  if v6 = 0 then
    zf_b (zf_A 1 0 p0 h7) fun v8 =>
    none
  else
    zf_b (zf_A 1 0 p0 h7) fun v9 =>
    zf_b2 (f_Integer_getChars p1 (v1 + v2) v9 h7) fun v10 h11 =>
    zf_b (zf_put 1 3 p0 (.int (v1 + v2)) h11) fun h12 =>
    some (p0, h12)
set_option maxHeartbeats 4000000 in
set_option maxRecDepth 400000 in
theorem t_f_AbstractStringBuilder_appendq2 {sc : (Nat × (Nat → Int32)) × Bool} {d : Nat} (p0 : Nat) (p1 : Int32) (h : zx_H) (r : Nat) (h' : zx_H) (hf : f_AbstractStringBuilder_appendq2 p0 p1 h = some (r, h')) : zx_T sc (d + 4) 167 (0, [(0, .ref p0), (1, .int p1)], []) h (zf_oA r) h' := by
  unfold f_AbstractStringBuilder_appendq2 at hf
  refine zv_p (k := 1) (f' := (1, [(0, .ref p0), (1, .int p1)], [.ref p0])) zq_167 zo_167 (by with_unfolding_all rfl) ?_
  replace hf := zf_be hf
  obtain ⟨v1, hv, hf⟩ := hf
  refine zv_gf zq_167 zo_167 rfl rfl rfl (zf_Ie hv) ?_
  refine zv_p (k := 3) (f' := (7, [(2, .int v1), (0, .ref p0), (1, .int p1)], [.int p1, .int v1])) zq_167 zo_167 (by with_unfolding_all rfl) ?_
  replace hf := zf_b2e hf
  obtain ⟨v2, h3, hv, hf⟩ := hf
  refine zv_c zq_167 zo_167 rfl rfl rfl rfl rfl rfl (t_f_Integer_stringSize _ _ _ _ hv) ?_
  refine zv_p (k := 4) (f' := (14, [(3, .int (v1 + v2)), (2, .int v1), (0, .ref p0), (1, .int p1)], [.int (v1 + v2), .ref p0])) zq_167 zo_167 (by with_unfolding_all rfl) ?_
  replace hf := zf_be hf
  obtain ⟨_, ho, hf⟩ := hf
  replace hf := zf_b2e hf
  obtain ⟨v4, h5, hv, hf⟩ := hf
  refine zv_c zq_167 zo_167 rfl rfl rfl rfl rfl (zv_cp rfl rfl rfl (zf_ise ho) rfl) (t_f_AbstractStringBuilder_ensureCapacityInternal _ _ _ _ _ hv) ?_
  refine zv_p (k := 1) (f' := (18, [(3, .int (v1 + v2)), (2, .int v1), (0, .ref p0), (1, .int p1)], [.ref p0])) zq_167 zo_167 (by with_unfolding_all rfl) ?_
  replace hf := zf_b2e hf
  obtain ⟨v6, h7, hv, hf⟩ := hf
  obtain ⟨mj, hcl, hrun⟩ := tv_0 hv
  refine zv_c zq_167 zo_167 rfl rfl rfl rfl rfl (hcl _ _ _ _ _ _ rfl rfl rfl rfl) hrun ?_
  replace hf := zf_ite hf
  obtain ⟨hc, hf⟩ | ⟨hc, hf⟩ := hf
  · refine zv_brT (off := 16) (tt := 37) (r := []) zq_167 zo_167 hc rfl rfl rfl ?_
    refine zv_p (k := 4) (f' := (41, [(3, .int (v1 + v2)), (2, .int v1), (0, .ref p0), (1, .int p1)], [.ref p0, .int (v1 + v2), .int v1, .int p1])) zq_167 zo_167 (by with_unfolding_all rfl) ?_
    replace hf := zf_be hf
    obtain ⟨v8, hv, hf⟩ := hf
    refine zv_gf zq_167 zo_167 rfl rfl rfl (zf_Ae hv) ?_
    cases hf
  · refine zv_brF (off := 16) (tt := 37) (r := []) zq_167 zo_167 hc rfl rfl rfl ?_
    refine zv_p (k := 3) (f' := (27, [(3, .int (v1 + v2)), (2, .int v1), (0, .ref p0), (1, .int p1)], [.ref p0, .int (v1 + v2), .int p1])) zq_167 zo_167 (by with_unfolding_all rfl) ?_
    replace hf := zf_be hf
    obtain ⟨v9, hv, hf⟩ := hf
    refine zv_gf zq_167 zo_167 rfl rfl rfl (zf_Ae hv) ?_
    replace hf := zf_b2e hf
    obtain ⟨v10, h11, hv, hf⟩ := hf
    refine zv_c zq_167 zo_167 rfl rfl rfl rfl rfl rfl (t_f_Integer_getChars _ _ _ _ _ _ hv) ?_
    refine zv_p (k := 4) (f' := (50, [(3, .int (v1 + v2)), (2, .int v1), (0, .ref p0), (1, .int p1)], [.int (v1 + v2), .ref p0])) zq_167 zo_167 (by with_unfolding_all rfl) ?_
    replace hf := zf_be hf
    obtain ⟨h12, hv, hf⟩ := hf
    refine zv_pf zq_167 zo_167 rfl rfl rfl rfl hv ?_
    refine zv_p (k := 1) (f' := (54, [(3, .int (v1 + v2)), (2, .int v1), (0, .ref p0), (1, .int p1)], [.ref p0])) zq_167 zo_167 (by with_unfolding_all rfl) ?_
    cases hf
    exact zv_r zq_167 zo_167 rfl rfl rfl rfl rfl
/-! StringBuilder.append (I)Ljava/lang/StringBuilder; -/
noncomputable def zI_166 : zd_T := [[(0, .aload_n 0, 1), (1, .iload_n 1, 1), (2, .invokespecial 53, 3), (5, .pop, 1), (6, .aload_n 0, 1), (7, .areturn, 1)]]
theorem zo_166 : zd_of 166 = some zI_166 := rfl
set_option maxRecDepth 100000 in
theorem zq_166 : zt_m[166]? = some (⟨"java/lang/StringBuilder", "append", "(I)Ljava/lang/StringBuilder;"⟩, prog_32_method_15_code, 2, some (.object "java/lang/StringBuilder"), [], 1, 1, 0, 0, 0, 0) := rfl
set_option maxHeartbeats 1000000 in
def f_StringBuilder_appendq2 (p0 : Nat) (p1 : Int32) (h : zx_H) : Option (Nat × zx_H) :=
  zf_b (zf_is 1 p0 h) fun _ =>
  zf_b2 (f_AbstractStringBuilder_appendq2 p0 p1 h) fun v1 h2 =>
  some (p0, h2)
set_option maxHeartbeats 4000000 in
set_option maxRecDepth 400000 in
theorem t_f_StringBuilder_appendq2 {sc : (Nat × (Nat → Int32)) × Bool} {d : Nat} (p0 : Nat) (p1 : Int32) (h : zx_H) (r : Nat) (h' : zx_H) (hf : f_StringBuilder_appendq2 p0 p1 h = some (r, h')) : zx_T sc (d + 5) 166 (0, [(0, .ref p0), (1, .int p1)], []) h (zf_oA r) h' := by
  unfold f_StringBuilder_appendq2 at hf
  refine zv_p (k := 2) (f' := (2, [(0, .ref p0), (1, .int p1)], [.int p1, .ref p0])) zq_166 zo_166 (by with_unfolding_all rfl) ?_
  replace hf := zf_be hf
  obtain ⟨_, ho, hf⟩ := hf
  replace hf := zf_b2e hf
  obtain ⟨v1, h2, hv, hf⟩ := hf
  refine zv_c zq_166 zo_166 rfl rfl rfl rfl rfl (zv_cs rfl rfl rfl (zf_ise ho) rfl) (t_f_AbstractStringBuilder_appendq2 _ _ _ _ _ hv) ?_
  refine zv_p (k := 2) (f' := (7, [(0, .ref p0), (1, .int p1)], [.ref p0])) zq_166 zo_166 (by with_unfolding_all rfl) ?_
  cases hf
  exact zv_r zq_166 zo_166 rfl rfl rfl rfl rfl
/-! Long.stringSize (J)I -/
noncomputable def zI_265 : zd_T := [[(0, .iconst 1, 1), (1, .istore_n 2, 1), (2, .lload_n 0, 1), (3, .lconst 0, 1), (4, .lcmp, 1), (5, .ifCond .lt 8, 3), (8, .iconst 0, 1), (9, .istore_n 2, 1), (10, .lload_n 0, 1), (11, .lneg, 1), (12, .lstore_n 0, 1), (13, .ldc2_w 140, 3), (16, .lstore_n 3, 1), (17, .iconst 1, 1), (18, .istore 5, 2), (20, .iload 5, 2), (22, .bipush 19, 2), (24, .if_icmp .ge 26, 3), (27, .lload_n 0, 1), (28, .lload_n 3, 1), (29, .lcmp, 1), (30, .ifCond .le 8, 3)], [(33, .iload 5, 2), (35, .iload_n 2, 1), (36, .iadd, 1), (37, .ireturn, 1), (38, .ldc2_w 53, 3), (41, .lload_n 3, 1), (42, .lmul, 1), (43, .lstore_n 3, 1), (44, .iinc 5 1, 3), (47, .goto (-27), 3), (50, .bipush 19, 2), (52, .iload_n 2, 1), (53, .iadd, 1), (54, .ireturn, 1)]]
theorem zo_265 : zd_of 265 = some zI_265 := rfl
set_option maxRecDepth 100000 in
theorem zq_265 : zt_m[265]? = some (⟨"java/lang/Long", "stringSize", "(J)I"⟩, prog_27_method_15_code, 6, some (.int), [], 18, 1, 0, 1, 99999, 0) := rfl
set_option maxHeartbeats 1000000 in
def f_Long_stringSize_20 : Nat → Int64 → Int32 → Int64 → Int32 → zx_H → Option (Int32 × zx_H)
  | 0, _, _, _, _, _ => none
  | n + 1, p0, p1, p2, p3, h =>
    if (19 : Int32) ≤ p3 then
      some (((19 : Int32) + p1), h)
    else
      if p0 ≤ p2 then
        (f_Long_stringSize_20 n) p0 p1 ((10 : Int64) * p2) (p3 + (1 : Int32)) h
      else
        some ((p3 + p1), h)
set_option maxHeartbeats 4000000 in
set_option maxRecDepth 400000 in
theorem t_f_Long_stringSize_20 {sc : (Nat × (Nat → Int32)) × Bool} {d : Nat} : ∀ (n : Nat) (p0 : Int64) (p1 : Int32) (p2 : Int64) (p3 : Int32) (h : zx_H) (r : Int32) (h' : zx_H), f_Long_stringSize_20 n p0 p1 p2 p3 h = some (r, h') → zx_T sc d 265 (20, [(0, .long p0), (2, .int p1), (3, .long p2), (5, .int p3)], []) h (zf_oI r) h' := by
  intro n
  induction n with
  | zero => intro p0 p1 p2 p3 h r h' hf; cases hf
  | succ n ih =>
    intro p0 p1 p2 p3 h r h' hf
    unfold f_Long_stringSize_20 at hf
    refine zv_p (k := 2) (f' := (24, [(0, .long p0), (2, .int p1), (3, .long p2), (5, .int p3)], [.int (19 : Int32), .int p3])) zq_265 zo_265 (by with_unfolding_all rfl) ?_
    replace hf := zf_ite hf
    obtain ⟨hc, hf⟩ | ⟨hc, hf⟩ := hf
    · refine zv_brT (off := 26) (tt := 50) (r := []) zq_265 zo_265 hc rfl rfl rfl ?_
      refine zv_p (k := 3) (f' := (54, [(0, .long p0), (2, .int p1), (3, .long p2), (5, .int p3)], [.int ((19 : Int32) + p1)])) zq_265 zo_265 (by with_unfolding_all rfl) ?_
      cases hf
      exact zv_rn zq_265 zo_265 rfl rfl
    · refine zv_brF (off := 26) (tt := 50) (r := []) zq_265 zo_265 hc rfl rfl rfl ?_
      refine zv_p (k := 3) (f' := (30, [(0, .long p0), (2, .int p1), (3, .long p2), (5, .int p3)], [.int (lg_cmp p0 p2)])) zq_265 zo_265 (by with_unfolding_all rfl) ?_
      replace hf := zf_ite hf
      obtain ⟨hc, hf⟩ | ⟨hc, hf⟩ := hf
      · refine zv_brT (off := 8) (tt := 38) (r := []) zq_265 zo_265 (zl_le.mpr hc) rfl rfl rfl ?_
        refine zv_lng zq_265 zo_265 rfl rfl ?_
        refine zv_p (k := 5) (f' := (20, [(5, .int (p3 + (1 : Int32))), (3, .long ((10 : Int64) * p2)), (0, .long p0), (2, .int p1)], [])) zq_265 zo_265 (by with_unfolding_all rfl) ?_
        refine zv_pick (lv' := [(0, .long p0), (2, .int p1), (3, .long ((10 : Int64) * p2)), (5, .int (p3 + (1 : Int32)))]) [0, 2, 3, 5] rfl rfl ?_
        exact ih _ _ _ _ _ _ _ hf
      · refine zv_brF (off := 8) (tt := 38) (r := []) zq_265 zo_265 (mt zl_le.mp hc) rfl rfl rfl ?_
        refine zv_p (k := 3) (f' := (37, [(0, .long p0), (2, .int p1), (3, .long p2), (5, .int p3)], [.int (p3 + p1)])) zq_265 zo_265 (by with_unfolding_all rfl) ?_
        cases hf
        exact zv_rn zq_265 zo_265 rfl rfl
set_option maxHeartbeats 1000000 in
def f_Long_stringSize (p0 : Int64) (h : zx_H) : Option (Int32 × zx_H) :=
  if p0 < (0 : Int64) then
    f_Long_stringSize_20 zF p0 (1 : Int32) (-10 : Int64) (1 : Int32) h
  else
    f_Long_stringSize_20 zF (-p0) (0 : Int32) (-10 : Int64) (1 : Int32) h
set_option maxHeartbeats 4000000 in
set_option maxRecDepth 400000 in
theorem t_f_Long_stringSize {sc : (Nat × (Nat → Int32)) × Bool} {d : Nat} (p0 : Int64) (h : zx_H) (r : Int32) (h' : zx_H) (hf : f_Long_stringSize p0 h = some (r, h')) : zx_T sc d 265 (0, [(0, .long p0)], []) h (zf_oI r) h' := by
  unfold f_Long_stringSize at hf
  refine zv_p (k := 5) (f' := (5, [(2, .int (1 : Int32)), (0, .long p0)], [.int (lg_cmp p0 (0 : Int64))])) zq_265 zo_265 (by with_unfolding_all rfl) ?_
  replace hf := zf_ite hf
  obtain ⟨hc, hf⟩ | ⟨hc, hf⟩ := hf
  · refine zv_brT (off := 8) (tt := 13) (r := []) zq_265 zo_265 (zl_lt.mpr hc) rfl rfl rfl ?_
    refine zv_lng zq_265 zo_265 rfl rfl ?_
    refine zv_p (k := 3) (f' := (20, [(5, .int (1 : Int32)), (3, .long (-10 : Int64)), (2, .int (1 : Int32)), (0, .long p0)], [])) zq_265 zo_265 (by with_unfolding_all rfl) ?_
    refine zv_pick (lv' := [(0, .long p0), (2, .int (1 : Int32)), (3, .long (-10 : Int64)), (5, .int (1 : Int32))]) [0, 2, 3, 5] rfl rfl ?_
    exact t_f_Long_stringSize_20 zF _ _ _ _ _ _ _ hf
  · refine zv_brF (off := 8) (tt := 13) (r := []) zq_265 zo_265 (mt zl_lt.mp hc) rfl rfl rfl ?_
    refine zv_p (k := 5) (f' := (13, [(0, .long (-p0)), (2, .int (0 : Int32))], [])) zq_265 zo_265 (by with_unfolding_all rfl) ?_
    refine zv_lng zq_265 zo_265 rfl rfl ?_
    refine zv_p (k := 3) (f' := (20, [(5, .int (1 : Int32)), (3, .long (-10 : Int64)), (0, .long (-p0)), (2, .int (0 : Int32))], [])) zq_265 zo_265 (by with_unfolding_all rfl) ?_
    refine zv_pick (lv' := [(0, .long (-p0)), (2, .int (0 : Int32)), (3, .long (-10 : Int64)), (5, .int (1 : Int32))]) [0, 2, 3, 5] rfl rfl ?_
    exact t_f_Long_stringSize_20 zF _ _ _ _ _ _ _ hf
/-! Long.getChars (JIarr B)I -/
noncomputable def zI_266 : zd_T := [[(0, .iload_n 2, 1), (1, .istore 7, 2), (3, .lload_n 0, 1), (4, .lconst 0, 1), (5, .lcmp, 1), (6, .ifCond .ge 7, 3), (9, .iconst 1, 1), (10, .goto 4, 3), (13, .iconst 0, 1), (14, .istore 8, 2), (16, .iload 8, 2), (18, .ifCond .ne 6, 3), (21, .lload_n 0, 1), (22, .lneg, 1), (23, .lstore_n 0, 1), (24, .lload_n 0, 1), (25, .ldc2_w 129, 3), (28, .lcmp, 1), (29, .ifCond .gt 53, 3)], [(32, .lload_n 0, 1), (33, .ldc2_w 131, 3), (36, .ldiv, 1), (37, .lstore 4, 2), (39, .lload 4, 2), (41, .ldc2_w 131, 3), (44, .lmul, 1), (45, .lload_n 0, 1), (46, .lsub, 1), (47, .l2i, 1), (48, .istore 6, 2), (50, .lload 4, 2), (52, .lstore_n 0, 1), (53, .aload_n 3, 1), (54, .iinc 7 (-1), 3), (57, .iload 7, 2), (59, .getstatic 133, 3), (62, .iload 6, 2)], [(64, .baload, 1), (65, .bastore, 1), (66, .aload_n 3, 1), (67, .iinc 7 (-1), 3), (70, .iload 7, 2), (72, .getstatic 137, 3), (75, .iload 6, 2), (77, .baload, 1), (78, .bastore, 1), (79, .goto (-55), 3), (82, .lload_n 0, 1), (83, .l2i, 1), (84, .istore 10, 2), (86, .iload 10, 2), (88, .bipush (-100), 2), (90, .if_icmp .gt 53, 3), (93, .iload 10, 2), (95, .bipush 100, 2)], [(97, .idiv, 1), (98, .istore 9, 2), (100, .iload 9, 2), (102, .bipush 100, 2), (104, .imul, 1), (105, .iload 10, 2), (107, .isub, 1), (108, .istore 6, 2), (110, .iload 9, 2), (112, .istore 10, 2), (114, .aload_n 3, 1), (115, .iinc 7 (-1), 3), (118, .iload 7, 2), (120, .getstatic 133, 3), (123, .iload 6, 2), (125, .baload, 1), (126, .bastore, 1), (127, .aload_n 3, 1)], [(128, .iinc 7 (-1), 3), (131, .iload 7, 2), (133, .getstatic 137, 3), (136, .iload 6, 2), (138, .baload, 1), (139, .bastore, 1), (140, .goto (-54), 3), (143, .aload_n 3, 1), (144, .iinc 7 (-1), 3), (147, .iload 7, 2), (149, .getstatic 133, 3), (152, .iload 10, 2), (154, .ineg, 1), (155, .baload, 1), (156, .bastore, 1), (157, .iload 10, 2), (159, .bipush (-9), 2)], [(161, .if_icmp .ge 17, 3), (164, .aload_n 3, 1), (165, .iinc 7 (-1), 3), (168, .iload 7, 2), (170, .getstatic 137, 3), (173, .iload 10, 2), (175, .ineg, 1), (176, .baload, 1), (177, .bastore, 1), (178, .iload 8, 2), (180, .ifCond .eq 12, 3), (183, .aload_n 3, 1), (184, .iinc 7 (-1), 3), (187, .iload 7, 2), (189, .bipush 45, 2), (191, .bastore, 1)], [(192, .iload 7, 2), (194, .ireturn, 1)]]
theorem zo_266 : zd_of 266 = some zI_266 := rfl
set_option maxRecDepth 100000 in
theorem zq_266 : zt_m[266]? = some (⟨"java/lang/Long", "getChars", "(JI[B)I"⟩, prog_27_method_14_code, 11, some (.int), [], 18, 3, 0, 1, 99999, 0) := rfl
set_option maxHeartbeats 1000000 in
def f_Long_getChars_178 (p0 : Nat) (p1 : Int32) (p2 : Int32) (h : zx_H) : Option (Int32 × zx_H) :=
  if p2 = 0 then
    some (p1, h)
  else
    zf_b (zf_stB p0 (p1 + (-1 : Int32)) (45 : Int32) h) fun h1 =>
    some ((p1 + (-1 : Int32)), h1)
set_option maxHeartbeats 4000000 in
set_option maxRecDepth 400000 in
theorem t_f_Long_getChars_178 {sc : (Nat × (Nat → Int32)) × Bool} {d : Nat} (p0 : Nat) (p1 : Int32) (p2 : Int32) (h : zx_H) (r : Int32) (h' : zx_H) (hf : f_Long_getChars_178 p0 p1 p2 h = some (r, h')) : zx_T sc d 266 (178, [(3, .ref p0), (7, .int p1), (8, .int p2)], []) h (zf_oI r) h' := by
  unfold f_Long_getChars_178 at hf
  refine zv_p (k := 1) (f' := (180, [(3, .ref p0), (7, .int p1), (8, .int p2)], [.int p2])) zq_266 zo_266 (by with_unfolding_all rfl) ?_
  replace hf := zf_ite hf
  obtain ⟨hc, hf⟩ | ⟨hc, hf⟩ := hf
  · refine zv_brT (off := 12) (tt := 192) (r := []) zq_266 zo_266 hc rfl rfl rfl ?_
    refine zv_p (k := 1) (f' := (194, [(3, .ref p0), (7, .int p1), (8, .int p2)], [.int p1])) zq_266 zo_266 (by with_unfolding_all rfl) ?_
    cases hf
    exact zv_rn zq_266 zo_266 rfl rfl
  · refine zv_brF (off := 12) (tt := 192) (r := []) zq_266 zo_266 hc rfl rfl rfl ?_
    refine zv_p (k := 4) (f' := (191, [(7, .int (p1 + (-1 : Int32))), (3, .ref p0), (8, .int p2)], [.int (45 : Int32), .int (p1 + (-1 : Int32)), .ref p0])) zq_266 zo_266 (by with_unfolding_all rfl) ?_
    replace hf := zf_be hf
    obtain ⟨h1, hv, hf⟩ := hf
    refine zv_stB zq_266 zo_266 rfl hv ?_
    refine zv_p (k := 1) (f' := (194, [(7, .int (p1 + (-1 : Int32))), (3, .ref p0), (8, .int p2)], [.int (p1 + (-1 : Int32))])) zq_266 zo_266 (by with_unfolding_all rfl) ?_
    simp only [Option.some.injEq, Prod.mk.injEq] at hf
    obtain ⟨rfl, rfl⟩ := hf
    exact zv_rn zq_266 zo_266 rfl rfl
set_option maxHeartbeats 1000000 in
def f_Long_getChars_86 : Nat → Nat → Int32 → Int32 → Int32 → zx_H → Option (Int32 × zx_H)
  | 0, _, _, _, _, _ => none
  | n + 1, p0, p1, p2, p3, h =>
    if (-100 : Int32) < p3 then
      zf_b (zf_ldB (zx_lim + 1 + 800) (-p3) h) fun v1 =>
      zf_b (zf_stB p0 (p1 + (-1 : Int32)) v1 h) fun h2 =>
      if (-9 : Int32) ≤ p3 then
        f_Long_getChars_178 p0 (p1 + (-1 : Int32)) p2 h2
      else
        zf_b (zf_ldB (zx_lim + 1 + 801) (-p3) h2) fun v3 =>
        zf_b (zf_stB p0 ((p1 + (-1 : Int32)) + (-1 : Int32)) v3 h2) fun h4 =>
        f_Long_getChars_178 p0 ((p1 + (-1 : Int32)) + (-1 : Int32)) p2 h4
    else
      zf_b (zf_ldB (zx_lim + 1 + 800) (((p3 / (100 : Int32)) * (100 : Int32)) - p3) h) fun v5 =>
      zf_b (zf_stB p0 (p1 + (-1 : Int32)) v5 h) fun h6 =>
      zf_b (zf_ldB (zx_lim + 1 + 801) (((p3 / (100 : Int32)) * (100 : Int32)) - p3) h6) fun v7 =>
      zf_b (zf_stB p0 ((p1 + (-1 : Int32)) + (-1 : Int32)) v7 h6) fun h8 =>
      (f_Long_getChars_86 n) p0 ((p1 + (-1 : Int32)) + (-1 : Int32)) p2 (p3 / (100 : Int32)) h8
set_option maxHeartbeats 4000000 in
set_option maxRecDepth 400000 in
theorem t_f_Long_getChars_86 {sc : (Nat × (Nat → Int32)) × Bool} {d : Nat} : ∀ (n : Nat) (p0 : Nat) (p1 : Int32) (p2 : Int32) (p3 : Int32) (h : zx_H) (r : Int32) (h' : zx_H), f_Long_getChars_86 n p0 p1 p2 p3 h = some (r, h') → zx_T sc d 266 (86, [(3, .ref p0), (7, .int p1), (8, .int p2), (10, .int p3)], []) h (zf_oI r) h' := by
  intro n
  induction n with
  | zero => intro p0 p1 p2 p3 h r h' hf; cases hf
  | succ n ih =>
    intro p0 p1 p2 p3 h r h' hf
    unfold f_Long_getChars_86 at hf
    refine zv_p (k := 2) (f' := (90, [(3, .ref p0), (7, .int p1), (8, .int p2), (10, .int p3)], [.int (-100 : Int32), .int p3])) zq_266 zo_266 (by with_unfolding_all rfl) ?_
    replace hf := zf_ite hf
    obtain ⟨hc, hf⟩ | ⟨hc, hf⟩ := hf
    · refine zv_brT (off := 53) (tt := 143) (r := []) zq_266 zo_266 hc rfl rfl rfl ?_
      refine zv_p (k := 3) (f' := (149, [(7, .int (p1 + (-1 : Int32))), (3, .ref p0), (8, .int p2), (10, .int p3)], [.int (p1 + (-1 : Int32)), .ref p0])) zq_266 zo_266 (by with_unfolding_all rfl) ?_
      refine zv_gs zq_266 zo_266 rfl rfl rfl ?_
      refine zv_p (k := 2) (f' := (155, [(7, .int (p1 + (-1 : Int32))), (3, .ref p0), (8, .int p2), (10, .int p3)], [.int (-p3), .ref (zx_lim + 1 + 800), .int (p1 + (-1 : Int32)), .ref p0])) zq_266 zo_266 (by with_unfolding_all rfl) ?_
      replace hf := zf_be hf
      obtain ⟨v1, hv, hf⟩ := hf
      refine zv_ldB zq_266 zo_266 rfl hv ?_
      replace hf := zf_be hf
      obtain ⟨h2, hv, hf⟩ := hf
      refine zv_stB zq_266 zo_266 rfl hv ?_
      refine zv_p (k := 2) (f' := (161, [(7, .int (p1 + (-1 : Int32))), (3, .ref p0), (8, .int p2), (10, .int p3)], [.int (-9 : Int32), .int p3])) zq_266 zo_266 (by with_unfolding_all rfl) ?_
      replace hf := zf_ite hf
      obtain ⟨hc, hf⟩ | ⟨hc, hf⟩ := hf
      · refine zv_brT (off := 17) (tt := 178) (r := []) zq_266 zo_266 hc rfl rfl rfl ?_
        refine zv_pick (lv' := [(3, .ref p0), (7, .int (p1 + (-1 : Int32))), (8, .int p2)]) [3, 7, 8] rfl rfl ?_
        exact t_f_Long_getChars_178 _ _ _ _ _ _ hf
      · refine zv_brF (off := 17) (tt := 178) (r := []) zq_266 zo_266 hc rfl rfl rfl ?_
        refine zv_p (k := 3) (f' := (170, [(7, .int ((p1 + (-1 : Int32)) + (-1 : Int32))), (3, .ref p0), (8, .int p2), (10, .int p3)], [.int ((p1 + (-1 : Int32)) + (-1 : Int32)), .ref p0])) zq_266 zo_266 (by with_unfolding_all rfl) ?_
        refine zv_gs zq_266 zo_266 rfl rfl rfl ?_
        refine zv_p (k := 2) (f' := (176, [(7, .int ((p1 + (-1 : Int32)) + (-1 : Int32))), (3, .ref p0), (8, .int p2), (10, .int p3)], [.int (-p3), .ref (zx_lim + 1 + 801), .int ((p1 + (-1 : Int32)) + (-1 : Int32)), .ref p0])) zq_266 zo_266 (by with_unfolding_all rfl) ?_
        replace hf := zf_be hf
        obtain ⟨v3, hv, hf⟩ := hf
        refine zv_ldB zq_266 zo_266 rfl hv ?_
        replace hf := zf_be hf
        obtain ⟨h4, hv, hf⟩ := hf
        refine zv_stB zq_266 zo_266 rfl hv ?_
        refine zv_pick (lv' := [(3, .ref p0), (7, .int ((p1 + (-1 : Int32)) + (-1 : Int32))), (8, .int p2)]) [3, 7, 8] rfl rfl ?_
        exact t_f_Long_getChars_178 _ _ _ _ _ _ hf
    · refine zv_brF (off := 53) (tt := 143) (r := []) zq_266 zo_266 hc rfl rfl rfl ?_
      refine zv_p (k := 8) (f' := (107, [(9, .int (p3 / (100 : Int32))), (3, .ref p0), (7, .int p1), (8, .int p2), (10, .int p3)], [.int p3, .int ((p3 / (100 : Int32)) * (100 : Int32))])) zq_266 zo_266 (by with_unfolding_all rfl) ?_
      refine zv_p (k := 7) (f' := (120, [(7, .int (p1 + (-1 : Int32))), (10, .int (p3 / (100 : Int32))), (6, .int (((p3 / (100 : Int32)) * (100 : Int32)) - p3)), (9, .int (p3 / (100 : Int32))), (3, .ref p0), (8, .int p2)], [.int (p1 + (-1 : Int32)), .ref p0])) zq_266 zo_266 (by with_unfolding_all rfl) ?_
      refine zv_gs zq_266 zo_266 rfl rfl rfl ?_
      refine zv_p (k := 1) (f' := (125, [(7, .int (p1 + (-1 : Int32))), (10, .int (p3 / (100 : Int32))), (6, .int (((p3 / (100 : Int32)) * (100 : Int32)) - p3)), (9, .int (p3 / (100 : Int32))), (3, .ref p0), (8, .int p2)], [.int (((p3 / (100 : Int32)) * (100 : Int32)) - p3), .ref (zx_lim + 1 + 800), .int (p1 + (-1 : Int32)), .ref p0])) zq_266 zo_266 (by with_unfolding_all rfl) ?_
      replace hf := zf_be hf
      obtain ⟨v5, hv, hf⟩ := hf
      refine zv_ldB zq_266 zo_266 rfl hv ?_
      replace hf := zf_be hf
      obtain ⟨h6, hv, hf⟩ := hf
      refine zv_stB zq_266 zo_266 rfl hv ?_
      refine zv_p (k := 3) (f' := (133, [(7, .int ((p1 + (-1 : Int32)) + (-1 : Int32))), (10, .int (p3 / (100 : Int32))), (6, .int (((p3 / (100 : Int32)) * (100 : Int32)) - p3)), (9, .int (p3 / (100 : Int32))), (3, .ref p0), (8, .int p2)], [.int ((p1 + (-1 : Int32)) + (-1 : Int32)), .ref p0])) zq_266 zo_266 (by with_unfolding_all rfl) ?_
      refine zv_gs zq_266 zo_266 rfl rfl rfl ?_
      refine zv_p (k := 1) (f' := (138, [(7, .int ((p1 + (-1 : Int32)) + (-1 : Int32))), (10, .int (p3 / (100 : Int32))), (6, .int (((p3 / (100 : Int32)) * (100 : Int32)) - p3)), (9, .int (p3 / (100 : Int32))), (3, .ref p0), (8, .int p2)], [.int (((p3 / (100 : Int32)) * (100 : Int32)) - p3), .ref (zx_lim + 1 + 801), .int ((p1 + (-1 : Int32)) + (-1 : Int32)), .ref p0])) zq_266 zo_266 (by with_unfolding_all rfl) ?_
      replace hf := zf_be hf
      obtain ⟨v7, hv, hf⟩ := hf
      refine zv_ldB zq_266 zo_266 rfl hv ?_
      replace hf := zf_be hf
      obtain ⟨h8, hv, hf⟩ := hf
      refine zv_stB zq_266 zo_266 rfl hv ?_
      refine zv_p (k := 1) (f' := (86, [(7, .int ((p1 + (-1 : Int32)) + (-1 : Int32))), (10, .int (p3 / (100 : Int32))), (6, .int (((p3 / (100 : Int32)) * (100 : Int32)) - p3)), (9, .int (p3 / (100 : Int32))), (3, .ref p0), (8, .int p2)], [])) zq_266 zo_266 (by with_unfolding_all rfl) ?_
      refine zv_pick (lv' := [(3, .ref p0), (7, .int ((p1 + (-1 : Int32)) + (-1 : Int32))), (8, .int p2), (10, .int (p3 / (100 : Int32)))]) [3, 7, 8, 10] rfl rfl ?_
      exact ih _ _ _ _ _ _ _ hf
set_option maxHeartbeats 1000000 in
def f_Long_getChars_24 : Nat → Int64 → Nat → Int32 → Int32 → zx_H → Option (Int32 × zx_H)
  | 0, _, _, _, _, _ => none
  | n + 1, p0, p1, p2, p3, h =>
    if (-2147483648 : Int64) < p0 then
      f_Long_getChars_86 zF p1 p2 p3 ((p0).toInt32) h
    else
      zf_b (zf_ldB (zx_lim + 1 + 800) (((((p0 / (100 : Int64)) * (100 : Int64)) - p0)).toInt32) h) fun v1 =>
      zf_b (zf_stB p1 (p2 + (-1 : Int32)) v1 h) fun h2 =>
      zf_b (zf_ldB (zx_lim + 1 + 801) (((((p0 / (100 : Int64)) * (100 : Int64)) - p0)).toInt32) h2) fun v3 =>
      zf_b (zf_stB p1 ((p2 + (-1 : Int32)) + (-1 : Int32)) v3 h2) fun h4 =>
      (f_Long_getChars_24 n) (p0 / (100 : Int64)) p1 ((p2 + (-1 : Int32)) + (-1 : Int32)) p3 h4
set_option maxHeartbeats 4000000 in
set_option maxRecDepth 400000 in
theorem t_f_Long_getChars_24 {sc : (Nat × (Nat → Int32)) × Bool} {d : Nat} : ∀ (n : Nat) (p0 : Int64) (p1 : Nat) (p2 : Int32) (p3 : Int32) (h : zx_H) (r : Int32) (h' : zx_H), f_Long_getChars_24 n p0 p1 p2 p3 h = some (r, h') → zx_T sc d 266 (24, [(0, .long p0), (3, .ref p1), (7, .int p2), (8, .int p3)], []) h (zf_oI r) h' := by
  intro n
  induction n with
  | zero => intro p0 p1 p2 p3 h r h' hf; cases hf
  | succ n ih =>
    intro p0 p1 p2 p3 h r h' hf
    unfold f_Long_getChars_24 at hf
    refine zv_p (k := 1) (f' := (25, [(0, .long p0), (3, .ref p1), (7, .int p2), (8, .int p3)], [.long p0])) zq_266 zo_266 (by with_unfolding_all rfl) ?_
    refine zv_lng zq_266 zo_266 rfl rfl ?_
    refine zv_p (k := 1) (f' := (29, [(0, .long p0), (3, .ref p1), (7, .int p2), (8, .int p3)], [.int (lg_cmp p0 (-2147483648 : Int64))])) zq_266 zo_266 (by with_unfolding_all rfl) ?_
    replace hf := zf_ite hf
    obtain ⟨hc, hf⟩ | ⟨hc, hf⟩ := hf
    · refine zv_brT (off := 53) (tt := 82) (r := []) zq_266 zo_266 (zl_gt.mpr hc) rfl rfl rfl ?_
      refine zv_p (k := 3) (f' := (86, [(10, .int (p0).toInt32), (0, .long p0), (3, .ref p1), (7, .int p2), (8, .int p3)], [])) zq_266 zo_266 (by with_unfolding_all rfl) ?_
      refine zv_pick (lv' := [(3, .ref p1), (7, .int p2), (8, .int p3), (10, .int (p0).toInt32)]) [3, 7, 8, 10] rfl rfl ?_
      exact t_f_Long_getChars_86 zF _ _ _ _ _ _ _ hf
    · refine zv_brF (off := 53) (tt := 82) (r := []) zq_266 zo_266 (mt zl_gt.mp hc) rfl rfl rfl ?_
      refine zv_p (k := 1) (f' := (33, [(0, .long p0), (3, .ref p1), (7, .int p2), (8, .int p3)], [.long p0])) zq_266 zo_266 (by with_unfolding_all rfl) ?_
      refine zv_lng zq_266 zo_266 rfl rfl ?_
      refine zv_p (k := 3) (f' := (41, [(4, .long (p0 / (100 : Int64))), (0, .long p0), (3, .ref p1), (7, .int p2), (8, .int p3)], [.long (p0 / (100 : Int64))])) zq_266 zo_266 (by with_unfolding_all rfl) ?_
      refine zv_lng zq_266 zo_266 rfl rfl ?_
      refine zv_p (k := 8) (f' := (54, [(0, .long (p0 / (100 : Int64))), (6, .int ((((p0 / (100 : Int64)) * (100 : Int64)) - p0)).toInt32), (4, .long (p0 / (100 : Int64))), (3, .ref p1), (7, .int p2), (8, .int p3)], [.ref p1])) zq_266 zo_266 (by with_unfolding_all rfl) ?_
      refine zv_p (k := 2) (f' := (59, [(7, .int (p2 + (-1 : Int32))), (0, .long (p0 / (100 : Int64))), (6, .int ((((p0 / (100 : Int64)) * (100 : Int64)) - p0)).toInt32), (4, .long (p0 / (100 : Int64))), (3, .ref p1), (8, .int p3)], [.int (p2 + (-1 : Int32)), .ref p1])) zq_266 zo_266 (by with_unfolding_all rfl) ?_
      refine zv_gs zq_266 zo_266 rfl rfl rfl ?_
      refine zv_p (k := 1) (f' := (64, [(7, .int (p2 + (-1 : Int32))), (0, .long (p0 / (100 : Int64))), (6, .int ((((p0 / (100 : Int64)) * (100 : Int64)) - p0)).toInt32), (4, .long (p0 / (100 : Int64))), (3, .ref p1), (8, .int p3)], [.int ((((p0 / (100 : Int64)) * (100 : Int64)) - p0)).toInt32, .ref (zx_lim + 1 + 800), .int (p2 + (-1 : Int32)), .ref p1])) zq_266 zo_266 (by with_unfolding_all rfl) ?_
      replace hf := zf_be hf
      obtain ⟨v1, hv, hf⟩ := hf
      refine zv_ldB zq_266 zo_266 rfl hv ?_
      replace hf := zf_be hf
      obtain ⟨h2, hv, hf⟩ := hf
      refine zv_stB zq_266 zo_266 rfl hv ?_
      refine zv_p (k := 3) (f' := (72, [(7, .int ((p2 + (-1 : Int32)) + (-1 : Int32))), (0, .long (p0 / (100 : Int64))), (6, .int ((((p0 / (100 : Int64)) * (100 : Int64)) - p0)).toInt32), (4, .long (p0 / (100 : Int64))), (3, .ref p1), (8, .int p3)], [.int ((p2 + (-1 : Int32)) + (-1 : Int32)), .ref p1])) zq_266 zo_266 (by with_unfolding_all rfl) ?_
      refine zv_gs zq_266 zo_266 rfl rfl rfl ?_
      refine zv_p (k := 1) (f' := (77, [(7, .int ((p2 + (-1 : Int32)) + (-1 : Int32))), (0, .long (p0 / (100 : Int64))), (6, .int ((((p0 / (100 : Int64)) * (100 : Int64)) - p0)).toInt32), (4, .long (p0 / (100 : Int64))), (3, .ref p1), (8, .int p3)], [.int ((((p0 / (100 : Int64)) * (100 : Int64)) - p0)).toInt32, .ref (zx_lim + 1 + 801), .int ((p2 + (-1 : Int32)) + (-1 : Int32)), .ref p1])) zq_266 zo_266 (by with_unfolding_all rfl) ?_
      replace hf := zf_be hf
      obtain ⟨v3, hv, hf⟩ := hf
      refine zv_ldB zq_266 zo_266 rfl hv ?_
      replace hf := zf_be hf
      obtain ⟨h4, hv, hf⟩ := hf
      refine zv_stB zq_266 zo_266 rfl hv ?_
      refine zv_p (k := 1) (f' := (24, [(7, .int ((p2 + (-1 : Int32)) + (-1 : Int32))), (0, .long (p0 / (100 : Int64))), (6, .int ((((p0 / (100 : Int64)) * (100 : Int64)) - p0)).toInt32), (4, .long (p0 / (100 : Int64))), (3, .ref p1), (8, .int p3)], [])) zq_266 zo_266 (by with_unfolding_all rfl) ?_
      refine zv_pick (lv' := [(0, .long (p0 / (100 : Int64))), (3, .ref p1), (7, .int ((p2 + (-1 : Int32)) + (-1 : Int32))), (8, .int p3)]) [0, 3, 7, 8] rfl rfl ?_
      exact ih _ _ _ _ _ _ _ hf
