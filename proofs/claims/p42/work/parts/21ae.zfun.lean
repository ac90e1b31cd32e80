set_option maxHeartbeats 1000000 in
def f_ColumnVault_addColumn (p0 : Nat) (p1 : Int32) (p2 : Int32) (h : zx_H) : Option ((Int32 ⊕ Nat) × zx_H) :=
  zf_b (zf_is 12 p0 h) fun _ =>
  zf_b3 (f_ColumnVault_sheetOf p0 p1 h) fun v1 h2 =>
  if p2 = 0 then
    f_ColumnVault_addColumn_25 p0 p1 p2 v1 h2
  else
    if p2 = (1 : Int32) then
      f_ColumnVault_addColumn_25 p0 p1 p2 v1 h2
    else
      if h2.length < zx_lim then some (.inr 14, h2 ++ [.inr (14, [])]) else none
set_option maxHeartbeats 4000000 in
set_option maxRecDepth 400000 in
theorem t_f_ColumnVault_addColumn {sc : (Nat × (Nat → Int32)) × Bool} {d : Nat} (p0 : Nat) (p1 : Int32) (p2 : Int32) (h : zx_H) (r : (Int32 ⊕ Nat)) (h' : zx_H) (hf : f_ColumnVault_addColumn p0 p1 p2 h = some (r, h')) : zx_T sc (d + 3) 22 (0, [(0, .ref p0), (1, .int p1), (2, .int p2)], []) h (zf_oIx r) h' := by
  unfold f_ColumnVault_addColumn at hf
  refine zv_p (k := 2) (f' := (2, [(0, .ref p0), (1, .int p1), (2, .int p2)], [.int p1, .ref p0])) zq_22 zo_22 (by with_unfolding_all rfl) ?_
  replace hf := zf_be hf
  obtain ⟨_, ho, hf⟩ := hf
  replace hf := zf_b3e hf
  obtain ⟨v1, h2, hv, hf⟩ | ⟨E3, h2, hv, hf⟩ := hf
  rotate_left
  · cases hf; exact zv_cx zq_22 zo_22 rfl rfl rfl rfl rfl (zv_cv rfl rfl rfl (zf_ise ho) rfl) (t_f_ColumnVault_sheetOf _ _ _ _ _ hv) rfl
  refine zv_c zq_22 zo_22 rfl rfl rfl rfl rfl (zv_cv rfl rfl rfl (zf_ise ho) rfl) (t_f_ColumnVault_sheetOf _ _ _ _ _ hv) ?_
  refine zv_p (k := 2) (f' := (7, [(3, .ref v1), (0, .ref p0), (1, .int p1), (2, .int p2)], [.int p2])) zq_22 zo_22 (by with_unfolding_all rfl) ?_
  replace hf := zf_ite hf
  obtain ⟨hc, hf⟩ | ⟨hc, hf⟩ := hf
  · refine zv_brT (off := 18) (tt := 25) (r := []) zq_22 zo_22 hc rfl rfl rfl ?_
    refine zv_pick (lv' := [(0, .ref p0), (1, .int p1), (2, .int p2), (3, .ref v1)]) [0, 1, 2, 3] rfl rfl ?_
    exact t_f_ColumnVault_addColumn_25 _ _ _ _ _ _ _ hf
  · refine zv_brF (off := 18) (tt := 25) (r := []) zq_22 zo_22 hc rfl rfl rfl ?_
    refine zv_p (k := 2) (f' := (12, [(3, .ref v1), (0, .ref p0), (1, .int p1), (2, .int p2)], [.int (1 : Int32), .int p2])) zq_22 zo_22 (by with_unfolding_all rfl) ?_
    replace hf := zf_ite hf
    obtain ⟨hc, hf⟩ | ⟨hc, hf⟩ := hf
    · refine zv_brT (off := 13) (tt := 25) (r := []) zq_22 zo_22 hc rfl rfl rfl ?_
      refine zv_pick (lv' := [(0, .ref p0), (1, .int p1), (2, .int p2), (3, .ref v1)]) [0, 1, 2, 3] rfl rfl ?_
      exact t_f_ColumnVault_addColumn_25 _ _ _ _ _ _ _ hf
    · refine zv_brF (off := 13) (tt := 25) (r := []) zq_22 zo_22 hc rfl rfl rfl ?_
      replace hf := zf_ite hf
      obtain ⟨hc, hf⟩ | ⟨hc, hf⟩ := hf
      · cases hf; exact zv_t zq_22 zo_22 rfl rfl rfl rfl rfl rfl rfl rfl rfl hc
      · cases hf
/-! ColumnVault$Sheet.appendRow ()I -/
noncomputable def zI_31 : zd_T := [[(0, .aload_n 0, 1), (1, .getfield 26, 3), (4, .bipush 40, 2), (6, .if_icmp .lt 5, 3), (9, .iconst (-1), 1), (10, .ireturn, 1), (11, .aload_n 0, 1), (12, .getfield 26, 3), (15, .istore_n 1, 1), (16, .aload_n 0, 1), (17, .getfield 19, 3), (20, .iload_n 1, 1), (21, .iload_n 1, 1), (22, .iastore, 1), (23, .aload_n 0, 1), (24, .dup, 1), (25, .getfield 26, 3), (28, .iconst 1, 1), (29, .iadd, 1), (30, .putfield 26, 3)], [(33, .aload_n 0, 1), (34, .dup, 1), (35, .getfield 29, 3), (38, .lconst 1, 1), (39, .iload_n 1, 1), (40, .lshl, 1), (41, .lor, 1), (42, .putfield 29, 3), (45, .iconst 0, 1), (46, .istore_n 2, 1), (47, .iload_n 2, 1), (48, .aload_n 0, 1), (49, .getfield 22, 3), (52, .if_icmp .ge 18, 3), (55, .aload_n 0, 1), (56, .iload_n 2, 1), (57, .iload_n 1, 1), (58, .ldc2_w 47, 3), (61, .invokevirtual 69, 3)], [(64, .iinc 2 1, 3), (67, .goto (-20), 3), (70, .iload_n 1, 1), (71, .ireturn, 1)]]
theorem zo_31 : zd_of 31 = some zI_31 := rfl
set_option maxRecDepth 100000 in
theorem zq_31 : zt_m[31]? = some (⟨"ColumnVault$Sheet", "appendRow", "()I"⟩, prog_10_method_12_code, 3, some (.int), [], 10, 0, 0, 0, 0, 0) := rfl
set_option maxHeartbeats 1000000 in
def f_Sheet_appendRow_47 : Nat → Nat → Int32 → Int32 → zx_H → Option (Int32 × zx_H)
  | 0, _, _, _, _ => none
  | n + 1, p0, p1, p2, h =>
    zf_b (zf_I 10 3 p0 h) fun v1 =>
    if v1 ≤ p2 then
      some (p1, h)
    else
      zf_b (zf_is 10 p0 h) fun _ =>
      zf_b2 (f_Sheet_putKey p0 p2 p1 (-9000000000 : Int64) h) fun _ h3 =>
      (f_Sheet_appendRow_47 n) p0 p1 (p2 + (1 : Int32)) h3
set_option maxHeartbeats 4000000 in
set_option maxRecDepth 400000 in
theorem t_f_Sheet_appendRow_47 {sc : (Nat × (Nat → Int32)) × Bool} {d : Nat} : ∀ (n : Nat) (p0 : Nat) (p1 : Int32) (p2 : Int32) (h : zx_H) (r : Int32) (h' : zx_H), f_Sheet_appendRow_47 n p0 p1 p2 h = some (r, h') → zx_T sc (d + 2) 31 (47, [(0, .ref p0), (1, .int p1), (2, .int p2)], []) h (zf_oI r) h' := by
  intro n
  induction n with
  | zero => intro p0 p1 p2 h r h' hf; cases hf
  | succ n ih =>
    intro p0 p1 p2 h r h' hf
    unfold f_Sheet_appendRow_47 at hf
    refine zv_p (k := 2) (f' := (49, [(0, .ref p0), (1, .int p1), (2, .int p2)], [.ref p0, .int p2])) zq_31 zo_31 (by with_unfolding_all rfl) ?_
    replace hf := zf_be hf
    obtain ⟨v1, hv, hf⟩ := hf
    refine zv_gf zq_31 zo_31 rfl rfl rfl (zf_Ie hv) ?_
    replace hf := zf_ite hf
    obtain ⟨hc, hf⟩ | ⟨hc, hf⟩ := hf
    · refine zv_brT (off := 18) (tt := 70) (r := []) zq_31 zo_31 hc rfl rfl rfl ?_
      refine zv_p (k := 1) (f' := (71, [(0, .ref p0), (1, .int p1), (2, .int p2)], [.int p1])) zq_31 zo_31 (by with_unfolding_all rfl) ?_
      cases hf
      exact zv_rn zq_31 zo_31 rfl rfl
    · refine zv_brF (off := 18) (tt := 70) (r := []) zq_31 zo_31 hc rfl rfl rfl ?_
      refine zv_p (k := 3) (f' := (58, [(0, .ref p0), (1, .int p1), (2, .int p2)], [.int p1, .int p2, .ref p0])) zq_31 zo_31 (by with_unfolding_all rfl) ?_
      refine zv_lng zq_31 zo_31 rfl rfl ?_
      replace hf := zf_be hf
      obtain ⟨_, ho, hf⟩ := hf
      replace hf := zf_b2e hf
      obtain ⟨v2, h3, hv, hf⟩ := hf
      refine zv_c zq_31 zo_31 rfl rfl rfl rfl rfl (zv_cv rfl rfl rfl (zf_ise ho) rfl) (t_f_Sheet_putKey _ _ _ _ _ _ _ hv) ?_
      refine zv_p (k := 2) (f' := (47, [(2, .int (p2 + (1 : Int32))), (0, .ref p0), (1, .int p1)], [])) zq_31 zo_31 (by with_unfolding_all rfl) ?_
      refine zv_pick (lv' := [(0, .ref p0), (1, .int p1), (2, .int (p2 + (1 : Int32)))]) [0, 1, 2] rfl rfl ?_
      exact ih _ _ _ _ _ _ hf
set_option maxHeartbeats 1000000 in
def f_Sheet_appendRow (p0 : Nat) (h : zx_H) : Option (Int32 × zx_H) :=
  zf_b (zf_I 10 4 p0 h) fun v1 =>
  if v1 < (40 : Int32) then
    zf_b (zf_I 10 4 p0 h) fun v2 =>
    zf_b (zf_A 10 2 p0 h) fun v3 =>
    zf_b (zf_stI v3 v2 v2 h) fun h4 =>
    zf_b (zf_I 10 4 p0 h4) fun v5 =>
    zf_b (zf_put 10 4 p0 (.int (v5 + (1 : Int32))) h4) fun h6 =>
    zf_b (zf_J 10 5 p0 h6) fun v7 =>
    zf_b (zf_put 10 5 p0 (.long (v7 ||| ((1 : Int64) <<< ((v2).toInt64 &&& 63)))) h6) fun h8 =>
    f_Sheet_appendRow_47 zF p0 v2 (0 : Int32) h8
  else
    some ((-1 : Int32), h)
set_option maxHeartbeats 4000000 in
set_option maxRecDepth 400000 in
theorem t_f_Sheet_appendRow {sc : (Nat × (Nat → Int32)) × Bool} {d : Nat} (p0 : Nat) (h : zx_H) (r : Int32) (h' : zx_H) (hf : f_Sheet_appendRow p0 h = some (r, h')) : zx_T sc (d + 2) 31 (0, [(0, .ref p0)], []) h (zf_oI r) h' := by
  unfold f_Sheet_appendRow at hf
  refine zv_p (k := 1) (f' := (1, [(0, .ref p0)], [.ref p0])) zq_31 zo_31 (by with_unfolding_all rfl) ?_
  replace hf := zf_be hf
  obtain ⟨v1, hv, hf⟩ := hf
  refine zv_gf zq_31 zo_31 rfl rfl rfl (zf_Ie hv) ?_
  refine zv_p (k := 1) (f' := (6, [(0, .ref p0)], [.int (40 : Int32), .int v1])) zq_31 zo_31 (by with_unfolding_all rfl) ?_
  replace hf := zf_ite hf
  obtain ⟨hc, hf⟩ | ⟨hc, hf⟩ := hf
  · refine zv_brT (off := 5) (tt := 11) (r := []) zq_31 zo_31 hc rfl rfl rfl ?_
    refine zv_p (k := 1) (f' := (12, [(0, .ref p0)], [.ref p0])) zq_31 zo_31 (by with_unfolding_all rfl) ?_
    replace hf := zf_be hf
    obtain ⟨v2, hv, hf⟩ := hf
    refine zv_gf zq_31 zo_31 rfl rfl rfl (zf_Ie hv) ?_
    refine zv_p (k := 2) (f' := (17, [(1, .int v2), (0, .ref p0)], [.ref p0])) zq_31 zo_31 (by with_unfolding_all rfl) ?_
    replace hf := zf_be hf
    obtain ⟨v3, hv, hf⟩ := hf
    refine zv_gf zq_31 zo_31 rfl rfl rfl (zf_Ae hv) ?_
    refine zv_p (k := 2) (f' := (22, [(1, .int v2), (0, .ref p0)], [.int v2, .int v2, .ref v3])) zq_31 zo_31 (by with_unfolding_all rfl) ?_
    replace hf := zf_be hf
    obtain ⟨h4, hv, hf⟩ := hf
    refine zv_stI zq_31 zo_31 rfl hv ?_
    refine zv_p (k := 2) (f' := (25, [(1, .int v2), (0, .ref p0)], [.ref p0, .ref p0])) zq_31 zo_31 (by with_unfolding_all rfl) ?_
    replace hf := zf_be hf
    obtain ⟨v5, hv, hf⟩ := hf
    refine zv_gf zq_31 zo_31 rfl rfl rfl (zf_Ie hv) ?_
    refine zv_p (k := 2) (f' := (30, [(1, .int v2), (0, .ref p0)], [.int (v5 + (1 : Int32)), .ref p0])) zq_31 zo_31 (by with_unfolding_all rfl) ?_
    replace hf := zf_be hf
    obtain ⟨h6, hv, hf⟩ := hf
    refine zv_pf zq_31 zo_31 rfl rfl rfl rfl hv ?_
    refine zv_p (k := 2) (f' := (35, [(1, .int v2), (0, .ref p0)], [.ref p0, .ref p0])) zq_31 zo_31 (by with_unfolding_all rfl) ?_
    replace hf := zf_be hf
    obtain ⟨v7, hv, hf⟩ := hf
    refine zv_gf zq_31 zo_31 rfl rfl rfl (zf_Je hv) ?_
    refine zv_p (k := 4) (f' := (42, [(1, .int v2), (0, .ref p0)], [.long (v7 ||| ((1 : Int64) <<< ((v2).toInt64 &&& 63))), .ref p0])) zq_31 zo_31 (by with_unfolding_all rfl) ?_
    replace hf := zf_be hf
    obtain ⟨h8, hv, hf⟩ := hf
    refine zv_pf zq_31 zo_31 rfl rfl rfl rfl hv ?_
    refine zv_p (k := 2) (f' := (47, [(2, .int (0 : Int32)), (1, .int v2), (0, .ref p0)], [])) zq_31 zo_31 (by with_unfolding_all rfl) ?_
    refine zv_pick (lv' := [(0, .ref p0), (1, .int v2), (2, .int (0 : Int32))]) [0, 1, 2] rfl rfl ?_
    exact t_f_Sheet_appendRow_47 zF _ _ _ _ _ _ hf
  · refine zv_brF (off := 5) (tt := 11) (r := []) zq_31 zo_31 hc rfl rfl rfl ?_
    refine zv_p (k := 1) (f' := (10, [(0, .ref p0)], [.int (-1 : Int32)])) zq_31 zo_31 (by with_unfolding_all rfl) ?_
    cases hf
    exact zv_rn zq_31 zo_31 rfl rfl
/-! ColumnVault.addRow (I)I -/
noncomputable def zI_30 : zd_T := [[(0, .aload_n 0, 1), (1, .iload_n 1, 1), (2, .invokevirtual 53, 3), (5, .getfield 82, 3), (8, .bipush 40, 2), (10, .if_icmp .lt 13, 3), (13, .new 70, 3), (16, .dup, 1), (17, .ldc 85, 2), (19, .invokespecial 74, 3), (22, .athrow, 1), (23, .aload_n 0, 1), (24, .iload_n 1, 1), (25, .invokevirtual 75, 3), (28, .invokevirtual 87, 3), (31, .ireturn, 1)], []]
theorem zo_30 : zd_of 30 = some zI_30 := rfl
set_option maxRecDepth 100000 in
theorem zq_30 : zt_m[30]? = some (⟨"ColumnVault", "addRow", "(I)I"⟩, prog_1_method_3_code, 2, some (.int), [], 12, 1, 0, 0, 0, 0) := rfl
set_option maxHeartbeats 1000000 in
def f_ColumnVault_addRow (p0 : Nat) (p1 : Int32) (h : zx_H) : Option ((Int32 ⊕ Nat) × zx_H) :=
  zf_b (zf_is 12 p0 h) fun _ =>
  zf_b3 (f_ColumnVault_sheetOf p0 p1 h) fun v1 h2 =>
  zf_b (zf_I 10 4 v1 h2) fun v4 =>
  if v4 < (40 : Int32) then
    zf_b (zf_is 12 p0 h2) fun _ =>
    zf_b3 (f_ColumnVault_nextSheetOf p0 p1 h2) fun v5 h6 =>
    zf_b (zf_is 10 v5 h6) fun _ =>
    zf_b2 (f_Sheet_appendRow v5 h6) fun v8 h9 =>
    some (.inl v8, h9)
  else
    if h2.length < zx_lim then some (.inr 15, h2 ++ [.inr (15, [])]) else none
set_option maxHeartbeats 4000000 in
set_option maxRecDepth 400000 in
theorem t_f_ColumnVault_addRow {sc : (Nat × (Nat → Int32)) × Bool} {d : Nat} (p0 : Nat) (p1 : Int32) (h : zx_H) (r : (Int32 ⊕ Nat)) (h' : zx_H) (hf : f_ColumnVault_addRow p0 p1 h = some (r, h')) : zx_T sc (d + 3) 30 (0, [(0, .ref p0), (1, .int p1)], []) h (zf_oIx r) h' := by
  unfold f_ColumnVault_addRow at hf
  refine zv_p (k := 2) (f' := (2, [(0, .ref p0), (1, .int p1)], [.int p1, .ref p0])) zq_30 zo_30 (by with_unfolding_all rfl) ?_
  replace hf := zf_be hf
  obtain ⟨_, ho, hf⟩ := hf
  replace hf := zf_b3e hf
  obtain ⟨v1, h2, hv, hf⟩ | ⟨E3, h2, hv, hf⟩ := hf
  rotate_left
  · cases hf; exact zv_cx zq_30 zo_30 rfl rfl rfl rfl rfl (zv_cv rfl rfl rfl (zf_ise ho) rfl) (t_f_ColumnVault_sheetOf _ _ _ _ _ hv) rfl
  refine zv_c zq_30 zo_30 rfl rfl rfl rfl rfl (zv_cv rfl rfl rfl (zf_ise ho) rfl) (t_f_ColumnVault_sheetOf _ _ _ _ _ hv) ?_
  replace hf := zf_be hf
  obtain ⟨v4, hv, hf⟩ := hf
  refine zv_gf zq_30 zo_30 rfl rfl rfl (zf_Ie hv) ?_
  refine zv_p (k := 1) (f' := (10, [(0, .ref p0), (1, .int p1)], [.int (40 : Int32), .int v4])) zq_30 zo_30 (by with_unfolding_all rfl) ?_
  replace hf := zf_ite hf
  obtain ⟨hc, hf⟩ | ⟨hc, hf⟩ := hf
  · refine zv_brT (off := 13) (tt := 23) (r := []) zq_30 zo_30 hc rfl rfl rfl ?_
    refine zv_p (k := 2) (f' := (25, [(0, .ref p0), (1, .int p1)], [.int p1, .ref p0])) zq_30 zo_30 (by with_unfolding_all rfl) ?_
    replace hf := zf_be hf
    obtain ⟨_, ho, hf⟩ := hf
    replace hf := zf_b3e hf
    obtain ⟨v5, h6, hv, hf⟩ | ⟨E7, h6, hv, hf⟩ := hf
    rotate_left
    · cases hf; exact zv_cx zq_30 zo_30 rfl rfl rfl rfl rfl (zv_cv rfl rfl rfl (zf_ise ho) rfl) (t_f_ColumnVault_nextSheetOf _ _ _ _ _ hv) rfl
    refine zv_c zq_30 zo_30 rfl rfl rfl rfl rfl (zv_cv rfl rfl rfl (zf_ise ho) rfl) (t_f_ColumnVault_nextSheetOf _ _ _ _ _ hv) ?_
    replace hf := zf_be hf
    obtain ⟨_, ho, hf⟩ := hf
    replace hf := zf_b2e hf
    obtain ⟨v8, h9, hv, hf⟩ := hf
    refine zv_c zq_30 zo_30 rfl rfl rfl rfl rfl (zv_cv rfl rfl rfl (zf_ise ho) rfl) (t_f_Sheet_appendRow _ _ _ _ hv) ?_
    cases hf
    exact zv_rn zq_30 zo_30 rfl rfl
  · refine zv_brF (off := 13) (tt := 23) (r := []) zq_30 zo_30 hc rfl rfl rfl ?_
    replace hf := zf_ite hf
    obtain ⟨hc, hf⟩ | ⟨hc, hf⟩ := hf
    · cases hf; exact zv_t zq_30 zo_30 rfl rfl rfl rfl rfl rfl rfl rfl rfl hc
    · cases hf
/-! ColumnVault.requireColumn (LColumnVault$Sheet;I)V -/
noncomputable def zI_34 : zd_T := [[(0, .aload_n 0, 1), (1, .iload_n 1, 1), (2, .invokevirtual 368, 3), (5, .ifCond .ne 14, 3), (8, .new 153, 3), (11, .dup, 1), (12, .ldc_w 371, 3), (15, .invokespecial 157, 3), (18, .athrow, 1), (19, .return_, 1)]]
theorem zo_34 : zd_of 34 = some zI_34 := rfl
set_option maxRecDepth 100000 in
theorem zq_34 : zt_m[34]? = some (⟨"ColumnVault", "requireColumn", "(LColumnVault$Sheet;I)V"⟩, prog_1_method_47_code, 2, none, [], 12, 2, 0, 1, 99999, 0) := rfl
set_option maxHeartbeats 1000000 in
def f_ColumnVault_requireColumn (p0 : Nat) (p1 : Int32) (h : zx_H) : Option ((Unit ⊕ Nat) × zx_H) :=
  zf_b (zf_is 10 p0 h) fun _ =>
  zf_b2 (f_Sheet_hasColumn p0 p1 h) fun v1 h2 =>
  if ¬ v1 = 0 then
    some (.inl (), h2)
  else
    if h2.length < zx_lim then some (.inr 13, h2 ++ [.inr (13, [])]) else none
set_option maxHeartbeats 4000000 in
set_option maxRecDepth 400000 in
theorem t_f_ColumnVault_requireColumn {sc : (Nat × (Nat → Int32)) × Bool} {d : Nat} (p0 : Nat) (p1 : Int32) (h : zx_H) (r : (Unit ⊕ Nat)) (h' : zx_H) (hf : f_ColumnVault_requireColumn p0 p1 h = some (r, h')) : zx_T sc (d + 1) 34 (0, [(0, .ref p0), (1, .int p1)], []) h (zf_oVx r) h' := by
  unfold f_ColumnVault_requireColumn at hf
  refine zv_p (k := 2) (f' := (2, [(0, .ref p0), (1, .int p1)], [.int p1, .ref p0])) zq_34 zo_34 (by with_unfolding_all rfl) ?_
  replace hf := zf_be hf
  obtain ⟨_, ho, hf⟩ := hf
  replace hf := zf_b2e hf
  obtain ⟨v1, h2, hv, hf⟩ := hf
  refine zv_c zq_34 zo_34 rfl rfl rfl rfl rfl (zv_cv rfl rfl rfl (zf_ise ho) rfl) (t_f_Sheet_hasColumn _ _ _ _ _ hv) ?_
  replace hf := zf_ite hf
  obtain ⟨hc, hf⟩ | ⟨hc, hf⟩ := hf
  · refine zv_brT (off := 14) (tt := 19) (r := []) zq_34 zo_34 hc rfl rfl rfl ?_
    cases hf
    exact zv_r zq_34 zo_34 rfl rfl rfl rfl rfl
  · refine zv_brF (off := 14) (tt := 19) (r := []) zq_34 zo_34 hc rfl rfl rfl ?_
    replace hf := zf_ite hf
    obtain ⟨hc, hf⟩ | ⟨hc, hf⟩ := hf
    · cases hf; exact zv_tw zq_34 zo_34 rfl rfl rfl rfl rfl rfl rfl rfl rfl hc
    · cases hf
/-! ColumnVault.sheetWith (II)LColumnVault$Sheet; -/
noncomputable def zI_33 : zd_T := [[(0, .aload_n 0, 1), (1, .iload_n 1, 1), (2, .invokevirtual 53, 3), (5, .astore_n 3, 1), (6, .aload_n 3, 1), (7, .iload_n 2, 1), (8, .invokestatic 298, 3), (11, .aload_n 3, 1), (12, .areturn, 1)]]
theorem zo_33 : zd_of 33 = some zI_33 := rfl
set_option maxRecDepth 100000 in
theorem zq_33 : zt_m[33]? = some (⟨"ColumnVault", "sheetWith", "(II)LColumnVault$Sheet;"⟩, prog_1_method_42_code, 4, some (.object "ColumnVault$Sheet"), [], 12, 2, 0, 0, 0, 0) := rfl
set_option maxHeartbeats 1000000 in
def f_ColumnVault_sheetWith (p0 : Nat) (p1 : Int32) (p2 : Int32) (h : zx_H) : Option ((Nat ⊕ Nat) × zx_H) :=
  zf_b (zf_is 12 p0 h) fun _ =>
  zf_b3 (f_ColumnVault_sheetOf p0 p1 h) fun v1 h2 =>
  zf_b3 (f_ColumnVault_requireColumn v1 p2 h2) fun _ h5 =>
  some (.inl v1, h5)
set_option maxHeartbeats 4000000 in
set_option maxRecDepth 400000 in
theorem t_f_ColumnVault_sheetWith {sc : (Nat × (Nat → Int32)) × Bool} {d : Nat} (p0 : Nat) (p1 : Int32) (p2 : Int32) (h : zx_H) (r : (Nat ⊕ Nat)) (h' : zx_H) (hf : f_ColumnVault_sheetWith p0 p1 p2 h = some (r, h')) : zx_T sc (d + 2) 33 (0, [(0, .ref p0), (1, .int p1), (2, .int p2)], []) h (zf_oAx r) h' := by
  unfold f_ColumnVault_sheetWith at hf
  refine zv_p (k := 2) (f' := (2, [(0, .ref p0), (1, .int p1), (2, .int p2)], [.int p1, .ref p0])) zq_33 zo_33 (by with_unfolding_all rfl) ?_
  replace hf := zf_be hf
  obtain ⟨_, ho, hf⟩ := hf
  replace hf := zf_b3e hf
  obtain ⟨v1, h2, hv, hf⟩ | ⟨E3, h2, hv, hf⟩ := hf
  rotate_left
  · cases hf; exact zv_cx zq_33 zo_33 rfl rfl rfl rfl rfl (zv_cv rfl rfl rfl (zf_ise ho) rfl) (t_f_ColumnVault_sheetOf _ _ _ _ _ hv) rfl
  refine zv_c zq_33 zo_33 rfl rfl rfl rfl rfl (zv_cv rfl rfl rfl (zf_ise ho) rfl) (t_f_ColumnVault_sheetOf _ _ _ _ _ hv) ?_
  refine zv_p (k := 3) (f' := (8, [(3, .ref v1), (0, .ref p0), (1, .int p1), (2, .int p2)], [.int p2, .ref v1])) zq_33 zo_33 (by with_unfolding_all rfl) ?_
  replace hf := zf_b3e hf
  obtain ⟨v4, h5, hv, hf⟩ | ⟨E6, h5, hv, hf⟩ := hf
  rotate_left
  · cases hf; exact zv_cx zq_33 zo_33 rfl rfl rfl rfl rfl rfl (t_f_ColumnVault_requireColumn _ _ _ _ _ hv) rfl
  refine zv_c zq_33 zo_33 rfl rfl rfl rfl rfl rfl (t_f_ColumnVault_requireColumn _ _ _ _ _ hv) ?_
  refine zv_p (k := 1) (f' := (12, [(3, .ref v1), (0, .ref p0), (1, .int p1), (2, .int p2)], [.ref v1])) zq_33 zo_33 (by with_unfolding_all rfl) ?_
  cases hf
  exact zv_r zq_33 zo_33 rfl rfl rfl rfl rfl
/-! ColumnVault$Sheet.kindOf (I)I -/
noncomputable def zI_35 : zd_T := [[(0, .aload_n 0, 1), (1, .iload_n 1, 1), (2, .invokevirtual 43, 3), (5, .ifCond .eq 12, 3), (8, .aload_n 0, 1), (9, .getfield 9, 3), (12, .iload_n 1, 1), (13, .iaload, 1), (14, .goto 4, 3), (17, .iconst (-1), 1), (18, .ireturn, 1)]]
theorem zo_35 : zd_of 35 = some zI_35 := rfl
set_option maxRecDepth 100000 in
theorem zq_35 : zt_m[35]? = some (⟨"ColumnVault$Sheet", "kindOf", "(I)I"⟩, prog_10_method_6_code, 2, some (.int), [], 10, 1, 0, 0, 0, 0) := rfl
set_option maxHeartbeats 1000000 in
def f_Sheet_kindOf (p0 : Nat) (p1 : Int32) (h : zx_H) : Option (Int32 × zx_H) :=
  zf_b (zf_is 10 p0 h) fun _ =>
  zf_b2 (f_Sheet_hasColumn p0 p1 h) fun v1 h2 =>
  if v1 = 0 then
    some ((-1 : Int32), h2)
  else
    zf_b (zf_A 10 0 p0 h2) fun v3 =>
    zf_b (zf_ldI v3 p1 h2) fun v4 =>
    some (v4, h2)
set_option maxHeartbeats 4000000 in
set_option maxRecDepth 400000 in
theorem t_f_Sheet_kindOf {sc : (Nat × (Nat → Int32)) × Bool} {d : Nat} (p0 : Nat) (p1 : Int32) (h : zx_H) (r : Int32) (h' : zx_H) (hf : f_Sheet_kindOf p0 p1 h = some (r, h')) : zx_T sc (d + 1) 35 (0, [(0, .ref p0), (1, .int p1)], []) h (zf_oI r) h' := by
  unfold f_Sheet_kindOf at hf
  refine zv_p (k := 2) (f' := (2, [(0, .ref p0), (1, .int p1)], [.int p1, .ref p0])) zq_35 zo_35 (by with_unfolding_all rfl) ?_
  replace hf := zf_be hf
  obtain ⟨_, ho, hf⟩ := hf
  replace hf := zf_b2e hf
  obtain ⟨v1, h2, hv, hf⟩ := hf
  refine zv_c zq_35 zo_35 rfl rfl rfl rfl rfl (zv_cv rfl rfl rfl (zf_ise ho) rfl) (t_f_Sheet_hasColumn _ _ _ _ _ hv) ?_
  replace hf := zf_ite hf
  obtain ⟨hc, hf⟩ | ⟨hc, hf⟩ := hf
  · refine zv_brT (off := 12) (tt := 17) (r := []) zq_35 zo_35 hc rfl rfl rfl ?_
    refine zv_p (k := 1) (f' := (18, [(0, .ref p0), (1, .int p1)], [.int (-1 : Int32)])) zq_35 zo_35 (by with_unfolding_all rfl) ?_
    cases hf
    exact zv_rn zq_35 zo_35 rfl rfl
  · refine zv_brF (off := 12) (tt := 17) (r := []) zq_35 zo_35 hc rfl rfl rfl ?_
    refine zv_p (k := 1) (f' := (9, [(0, .ref p0), (1, .int p1)], [.ref p0])) zq_35 zo_35 (by with_unfolding_all rfl) ?_
    replace hf := zf_be hf
    obtain ⟨v3, hv, hf⟩ := hf
    refine zv_gf zq_35 zo_35 rfl rfl rfl (zf_Ae hv) ?_
    refine zv_p (k := 1) (f' := (13, [(0, .ref p0), (1, .int p1)], [.int p1, .ref v3])) zq_35 zo_35 (by with_unfolding_all rfl) ?_
    replace hf := zf_be hf
    obtain ⟨v4, hv, hf⟩ := hf
    refine zv_ldI zq_35 zo_35 rfl hv ?_
    refine zv_p (k := 1) (f' := (18, [(0, .ref p0), (1, .int p1)], [.int v4])) zq_35 zo_35 (by with_unfolding_all rfl) ?_
    cases hf
    exact zv_rn zq_35 zo_35 rfl rfl
/-! ColumnVault.isNumber (J)Z -/
noncomputable def zI_36 : zd_T := [[(0, .lload_n 0, 1), (1, .ldc2_w 389, 3), (4, .lcmp, 1), (5, .ifCond .lt 15, 3), (8, .lload_n 0, 1), (9, .ldc2_w 391, 3), (12, .lcmp, 1), (13, .ifCond .gt 7, 3), (16, .iconst 1, 1), (17, .goto 4, 3), (20, .iconst 0, 1), (21, .ireturn, 1)]]
theorem zo_36 : zd_of 36 = some zI_36 := rfl
set_option maxRecDepth 100000 in
theorem zq_36 : zt_m[36]? = some (⟨"ColumnVault", "isNumber", "(J)Z"⟩, prog_1_method_53_code, 2, some (.boolean), [], 12, 1, 0, 1, 99999, 0) := rfl
set_option maxHeartbeats 1000000 in
def f_ColumnVault_isNumber (p0 : Int64) (h : zx_H) : Option (Int32 × zx_H) :=
  if p0 < (-1000000 : Int64) then
    some ((0 : Int32), h)
  else
    if (1000000 : Int64) < p0 then
      some ((0 : Int32), h)
    else
      some ((1 : Int32), h)
set_option maxHeartbeats 4000000 in
set_option maxRecDepth 400000 in
theorem t_f_ColumnVault_isNumber {sc : (Nat × (Nat → Int32)) × Bool} {d : Nat} (p0 : Int64) (h : zx_H) (r : Int32) (h' : zx_H) (hf : f_ColumnVault_isNumber p0 h = some (r, h')) : zx_T sc d 36 (0, [(0, .long p0)], []) h (zf_oI r) h' := by
  unfold f_ColumnVault_isNumber at hf
  refine zv_p (k := 1) (f' := (1, [(0, .long p0)], [.long p0])) zq_36 zo_36 (by with_unfolding_all rfl) ?_
  refine zv_lng zq_36 zo_36 rfl rfl ?_
  refine zv_p (k := 1) (f' := (5, [(0, .long p0)], [.int (lg_cmp p0 (-1000000 : Int64))])) zq_36 zo_36 (by with_unfolding_all rfl) ?_
  replace hf := zf_ite hf
  obtain ⟨hc, hf⟩ | ⟨hc, hf⟩ := hf
  · refine zv_brT (off := 15) (tt := 20) (r := []) zq_36 zo_36 (zl_lt.mpr hc) rfl rfl rfl ?_
    refine zv_p (k := 1) (f' := (21, [(0, .long p0)], [.int (0 : Int32)])) zq_36 zo_36 (by with_unfolding_all rfl) ?_
    cases hf
    exact zv_rn zq_36 zo_36 rfl rfl
  · refine zv_brF (off := 15) (tt := 20) (r := []) zq_36 zo_36 (mt zl_lt.mp hc) rfl rfl rfl ?_
    refine zv_p (k := 1) (f' := (9, [(0, .long p0)], [.long p0])) zq_36 zo_36 (by with_unfolding_all rfl) ?_
    refine zv_lng zq_36 zo_36 rfl rfl ?_
    refine zv_p (k := 1) (f' := (13, [(0, .long p0)], [.int (lg_cmp p0 (1000000 : Int64))])) zq_36 zo_36 (by with_unfolding_all rfl) ?_
    replace hf := zf_ite hf
    obtain ⟨hc, hf⟩ | ⟨hc, hf⟩ := hf
    · refine zv_brT (off := 7) (tt := 20) (r := []) zq_36 zo_36 (zl_gt.mpr hc) rfl rfl rfl ?_
      refine zv_p (k := 1) (f' := (21, [(0, .long p0)], [.int (0 : Int32)])) zq_36 zo_36 (by with_unfolding_all rfl) ?_
      cases hf
      exact zv_rn zq_36 zo_36 rfl rfl
    · refine zv_brF (off := 7) (tt := 20) (r := []) zq_36 zo_36 (mt zl_gt.mp hc) rfl rfl rfl ?_
      refine zv_p (k := 2) (f' := (21, [(0, .long p0)], [.int (1 : Int32)])) zq_36 zo_36 (by with_unfolding_all rfl) ?_
      cases hf
      exact zv_rn zq_36 zo_36 rfl rfl
/-! ColumnVault.fill (IIIII)I -/
noncomputable def zI_32 : zd_T := [[(0, .aload_n 0, 1), (1, .iload_n 1, 1), (2, .iload_n 2, 1), (3, .invokevirtual 91, 3), (6, .astore 6, 2), (8, .aload 6, 2), (10, .iload_n 2, 1), (11, .invokevirtual 95, 3), (14, .ifCond .ne 56, 3), (17, .iload_n 3, 1), (18, .i2l, 1), (19, .invokestatic 98, 3), (22, .ifCond .eq 48, 3), (25, .iload 4, 2), (27, .sipush (-1000), 3), (30, .if_icmp .lt 40, 3)], [(33, .iload 4, 2), (35, .sipush 1000, 3), (38, .if_icmp .gt 32, 3), (41, .iload 5, 2), (43, .iconst 1, 1), (44, .if_icmp .lt 26, 3), (47, .iload 5, 2), (49, .bipush 40, 2), (51, .if_icmp .gt 19, 3), (54, .iload_n 3, 1), (55, .iload 4, 2), (57, .iload 5, 2), (59, .iconst 1, 1), (60, .isub, 1), (61, .imul, 1), (62, .iadd, 1), (63, .i2l, 1)], [(64, .invokestatic 98, 3), (67, .ifCond .ne 13, 3), (70, .new 57, 3), (73, .dup, 1), (74, .ldc 102, 2), (76, .invokespecial 61, 3), (79, .athrow, 1), (80, .aload 6, 2), (82, .getfield 82, 3), (85, .iload 5, 2), (87, .iadd, 1), (88, .bipush 40, 2), (90, .if_icmp .le 13, 3), (93, .new 70, 3)], [(96, .dup, 1), (97, .ldc 85, 2), (99, .invokespecial 74, 3), (102, .athrow, 1), (103, .aload_n 0, 1), (104, .iload_n 1, 1), (105, .invokevirtual 75, 3), (108, .astore 7, 2), (110, .iconst 0, 1), (111, .istore 8, 2), (113, .iload 8, 2), (115, .iload 5, 2), (117, .if_icmp .ge 28, 3), (120, .aload 7, 2), (122, .iload_n 2, 1), (123, .aload 7, 2), (125, .invokevirtual 87, 3)], [(128, .iload_n 3, 1), (129, .iload 4, 2), (131, .iload 8, 2), (133, .imul, 1), (134, .iadd, 1), (135, .i2l, 1), (136, .invokevirtual 104, 3), (139, .iinc 8 1, 3), (142, .goto (-29), 3), (145, .aload 7, 2), (147, .getfield 82, 3), (150, .ireturn, 1)]]
theorem zo_32 : zd_of 32 = some zI_32 := rfl
set_option maxRecDepth 100000 in
theorem zq_32 : zt_m[32]? = some (⟨"ColumnVault", "fill", "(IIIII)I"⟩, prog_1_method_4_code, 9, some (.int), [], 12, 5, 0, 0, 0, 0) := rfl
set_option maxHeartbeats 1000000 in
def f_ColumnVault_fill_113 : Nat → Int32 → Int32 → Int32 → Int32 → Nat → Int32 → zx_H → Option ((Int32 ⊕ Nat) × zx_H)
  | 0, _, _, _, _, _, _, _ => none
  | n + 1, p0, p1, p2, p3, p4, p5, h =>
    if p3 ≤ p5 then
      zf_b (zf_I 10 4 p4 h) fun v1 =>
      some (.inl v1, h)
    else
      zf_b (zf_is 10 p4 h) fun _ =>
      zf_b2 (f_Sheet_appendRow p4 h) fun v2 h3 =>
      zf_b (zf_is 10 p4 h3) fun _ =>
      zf_b2 (f_Sheet_putKey p4 p0 v2 (((p1 + (p2 * p5))).toInt64) h3) fun _ h5 =>
      (f_ColumnVault_fill_113 n) p0 p1 p2 p3 p4 (p5 + (1 : Int32)) h5
set_option maxHeartbeats 4000000 in
set_option maxRecDepth 400000 in
theorem t_f_ColumnVault_fill_113 {sc : (Nat × (Nat → Int32)) × Bool} {d : Nat} : ∀ (n : Nat) (p0 : Int32) (p1 : Int32) (p2 : Int32) (p3 : Int32) (p4 : Nat) (p5 : Int32) (h : zx_H) (r : (Int32 ⊕ Nat)) (h' : zx_H), f_ColumnVault_fill_113 n p0 p1 p2 p3 p4 p5 h = some (r, h') → zx_T sc (d + 3) 32 (113, [(2, .int p0), (3, .int p1), (4, .int p2), (5, .int p3), (7, .ref p4), (8, .int p5)], []) h (zf_oIx r) h' := by
  intro n
  induction n with
  | zero => intro p0 p1 p2 p3 p4 p5 h r h' hf; cases hf
  | succ n ih =>
    intro p0 p1 p2 p3 p4 p5 h r h' hf
    unfold f_ColumnVault_fill_113 at hf
    refine zv_p (k := 2) (f' := (117, [(2, .int p0), (3, .int p1), (4, .int p2), (5, .int p3), (7, .ref p4), (8, .int p5)], [.int p3, .int p5])) zq_32 zo_32 (by with_unfolding_all rfl) ?_
    replace hf := zf_ite hf
    obtain ⟨hc, hf⟩ | ⟨hc, hf⟩ := hf
    · refine zv_brT (off := 28) (tt := 145) (r := []) zq_32 zo_32 hc rfl rfl rfl ?_
      refine zv_p (k := 1) (f' := (147, [(2, .int p0), (3, .int p1), (4, .int p2), (5, .int p3), (7, .ref p4), (8, .int p5)], [.ref p4])) zq_32 zo_32 (by with_unfolding_all rfl) ?_
      replace hf := zf_be hf
      obtain ⟨v1, hv, hf⟩ := hf
      refine zv_gf zq_32 zo_32 rfl rfl rfl (zf_Ie hv) ?_
      cases hf
      exact zv_rn zq_32 zo_32 rfl rfl
    · refine zv_brF (off := 28) (tt := 145) (r := []) zq_32 zo_32 hc rfl rfl rfl ?_
      refine zv_p (k := 3) (f' := (125, [(2, .int p0), (3, .int p1), (4, .int p2), (5, .int p3), (7, .ref p4), (8, .int p5)], [.ref p4, .int p0, .ref p4])) zq_32 zo_32 (by with_unfolding_all rfl) ?_
      replace hf := zf_be hf
      obtain ⟨_, ho, hf⟩ := hf
      replace hf := zf_b2e hf
      obtain ⟨v2, h3, hv, hf⟩ := hf
      refine zv_c zq_32 zo_32 rfl rfl rfl rfl rfl (zv_cv rfl rfl rfl (zf_ise ho) rfl) (t_f_Sheet_appendRow _ _ _ _ hv) ?_
      refine zv_p (k := 6) (f' := (136, [(2, .int p0), (3, .int p1), (4, .int p2), (5, .int p3), (7, .ref p4), (8, .int p5)], [.long ((p1 + (p2 * p5))).toInt64, .int v2, .int p0, .ref p4])) zq_32 zo_32 (by with_unfolding_all rfl) ?_
      replace hf := zf_be hf
      obtain ⟨_, ho, hf⟩ := hf
      replace hf := zf_b2e hf
      obtain ⟨v4, h5, hv, hf⟩ := hf
      refine zv_c zq_32 zo_32 rfl rfl rfl rfl rfl (zv_cv rfl rfl rfl (zf_ise ho) rfl) (t_f_Sheet_putKey _ _ _ _ _ _ _ hv) ?_
      refine zv_p (k := 2) (f' := (113, [(8, .int (p5 + (1 : Int32))), (2, .int p0), (3, .int p1), (4, .int p2), (5, .int p3), (7, .ref p4)], [])) zq_32 zo_32 (by with_unfolding_all rfl) ?_
      refine zv_pick (lv' := [(2, .int p0), (3, .int p1), (4, .int p2), (5, .int p3), (7, .ref p4), (8, .int (p5 + (1 : Int32)))]) [2, 3, 4, 5, 7, 8] rfl rfl ?_
      exact ih _ _ _ _ _ _ _ _ _ hf
set_option maxHeartbeats 1000000 in
def f_ColumnVault_fill (p0 : Nat) (p1 : Int32) (p2 : Int32) (p3 : Int32) (p4 : Int32) (p5 : Int32) (h : zx_H) : Option ((Int32 ⊕ Nat) × zx_H) :=
  zf_b (zf_is 12 p0 h) fun _ =>
  zf_b3 (f_ColumnVault_sheetWith p0 p1 p2 h) fun v1 h2 =>
  zf_b (zf_is 10 v1 h2) fun _ =>
  zf_b2 (f_Sheet_kindOf v1 p2 h2) fun v4 h5 =>
  if ¬ v4 = 0 then
    if h5.length < zx_lim then some (.inr 14, h5 ++ [.inr (14, [])]) else none
  else
    zf_b2 (f_ColumnVault_isNumber ((p3).toInt64) h5) fun v6 h7 =>
    if v6 = 0 then
      if h7.length < zx_lim then some (.inr 14, h7 ++ [.inr (14, [])]) else none
    else
      if p4 < (-1000 : Int32) then
        if h7.length < zx_lim then some (.inr 14, h7 ++ [.inr (14, [])]) else none
      else
        if (1000 : Int32) < p4 then
          if h7.length < zx_lim then some (.inr 14, h7 ++ [.inr (14, [])]) else none
        else
          if p5 < (1 : Int32) then
            if h7.length < zx_lim then some (.inr 14, h7 ++ [.inr (14, [])]) else none
          else
            if (40 : Int32) < p5 then
              if h7.length < zx_lim then some (.inr 14, h7 ++ [.inr (14, [])]) else none
            else
              zf_b2 (f_ColumnVault_isNumber (((p3 + (p4 * (p5 - (1 : Int32))))).toInt64) h7) fun v8 h9 =>
              if ¬ v8 = 0 then
                zf_b (zf_I 10 4 v1 h9) fun v10 =>
                if (v10 + p5) ≤ (40 : Int32) then
                  zf_b (zf_is 12 p0 h9) fun _ =>
                  zf_b3 (f_ColumnVault_nextSheetOf p0 p1 h9) fun v11 h12 =>
                  f_ColumnVault_fill_113 zF p2 p3 p4 p5 v11 (0 : Int32) h12
                else
                  if h9.length < zx_lim then some (.inr 15, h9 ++ [.inr (15, [])]) else none
              else
                if h9.length < zx_lim then some (.inr 14, h9 ++ [.inr (14, [])]) else none
set_option maxHeartbeats 4000000 in
set_option maxRecDepth 400000 in
theorem t_f_ColumnVault_fill {sc : (Nat × (Nat → Int32)) × Bool} {d : Nat} (p0 : Nat) (p1 : Int32) (p2 : Int32) (p3 : Int32) (p4 : Int32) (p5 : Int32) (h : zx_H) (r : (Int32 ⊕ Nat)) (h' : zx_H) (hf : f_ColumnVault_fill p0 p1 p2 p3 p4 p5 h = some (r, h')) : zx_T sc (d + 3) 32 (0, [(0, .ref p0), (1, .int p1), (2, .int p2), (3, .int p3), (4, .int p4), (5, .int p5)], []) h (zf_oIx r) h' := by
  unfold f_ColumnVault_fill at hf
  refine zv_p (k := 3) (f' := (3, [(0, .ref p0), (1, .int p1), (2, .int p2), (3, .int p3), (4, .int p4), (5, .int p5)], [.int p2, .int p1, .ref p0])) zq_32 zo_32 (by with_unfolding_all rfl) ?_
  replace hf := zf_be hf
  obtain ⟨_, ho, hf⟩ := hf
  replace hf := zf_b3e hf
  obtain ⟨v1, h2, hv, hf⟩ | ⟨E3, h2, hv, hf⟩ := hf
  rotate_left
  · cases hf; exact zv_cx zq_32 zo_32 rfl rfl rfl rfl rfl (zv_cv rfl rfl rfl (zf_ise ho) rfl) (t_f_ColumnVault_sheetWith _ _ _ _ _ _ hv) rfl
  refine zv_c zq_32 zo_32 rfl rfl rfl rfl rfl (zv_cv rfl rfl rfl (zf_ise ho) rfl) (t_f_ColumnVault_sheetWith _ _ _ _ _ _ hv) ?_
  refine zv_p (k := 3) (f' := (11, [(6, .ref v1), (0, .ref p0), (1, .int p1), (2, .int p2), (3, .int p3), (4, .int p4), (5, .int p5)], [.int p2, .ref v1])) zq_32 zo_32 (by with_unfolding_all rfl) ?_
  replace hf := zf_be hf
  obtain ⟨_, ho, hf⟩ := hf
  replace hf := zf_b2e hf
  obtain ⟨v4, h5, hv, hf⟩ := hf
  refine zv_c zq_32 zo_32 rfl rfl rfl rfl rfl (zv_cv rfl rfl rfl (zf_ise ho) rfl) (t_f_Sheet_kindOf _ _ _ _ _ hv) ?_
  replace hf := zf_ite hf
  obtain ⟨hc, hf⟩ | ⟨hc, hf⟩ := hf
  · refine zv_brT (off := 56) (tt := 70) (r := []) zq_32 zo_32 hc rfl rfl rfl ?_
    replace hf := zf_ite hf
    obtain ⟨hc, hf⟩ | ⟨hc, hf⟩ := hf
    · cases hf; exact zv_t zq_32 zo_32 rfl rfl rfl rfl rfl rfl rfl rfl rfl hc
    · cases hf
  · refine zv_brF (off := 56) (tt := 70) (r := []) zq_32 zo_32 hc rfl rfl rfl ?_
    refine zv_p (k := 2) (f' := (19, [(6, .ref v1), (0, .ref p0), (1, .int p1), (2, .int p2), (3, .int p3), (4, .int p4), (5, .int p5)], [.long (p3).toInt64])) zq_32 zo_32 (by with_unfolding_all rfl) ?_
    replace hf := zf_b2e hf
    obtain ⟨v6, h7, hv, hf⟩ := hf
    refine zv_c zq_32 zo_32 rfl rfl rfl rfl rfl rfl (t_f_ColumnVault_isNumber _ _ _ _ hv) ?_
    replace hf := zf_ite hf
    obtain ⟨hc, hf⟩ | ⟨hc, hf⟩ := hf
    · refine zv_brT (off := 48) (tt := 70) (r := []) zq_32 zo_32 hc rfl rfl rfl ?_
      replace hf := zf_ite hf
      obtain ⟨hc, hf⟩ | ⟨hc, hf⟩ := hf
      · cases hf; exact zv_t zq_32 zo_32 rfl rfl rfl rfl rfl rfl rfl rfl rfl hc
      · cases hf
    · refine zv_brF (off := 48) (tt := 70) (r := []) zq_32 zo_32 hc rfl rfl rfl ?_
      refine zv_p (k := 2) (f' := (30, [(6, .ref v1), (0, .ref p0), (1, .int p1), (2, .int p2), (3, .int p3), (4, .int p4), (5, .int p5)], [.int (-1000 : Int32), .int p4])) zq_32 zo_32 (by with_unfolding_all rfl) ?_
      replace hf := zf_ite hf
      obtain ⟨hc, hf⟩ | ⟨hc, hf⟩ := hf
      · refine zv_brT (off := 40) (tt := 70) (r := []) zq_32 zo_32 hc rfl rfl rfl ?_
        replace hf := zf_ite hf
        obtain ⟨hc, hf⟩ | ⟨hc, hf⟩ := hf
        · cases hf; exact zv_t zq_32 zo_32 rfl rfl rfl rfl rfl rfl rfl rfl rfl hc
        · cases hf
      · refine zv_brF (off := 40) (tt := 70) (r := []) zq_32 zo_32 hc rfl rfl rfl ?_
        refine zv_p (k := 2) (f' := (38, [(6, .ref v1), (0, .ref p0), (1, .int p1), (2, .int p2), (3, .int p3), (4, .int p4), (5, .int p5)], [.int (1000 : Int32), .int p4])) zq_32 zo_32 (by with_unfolding_all rfl) ?_
        replace hf := zf_ite hf
        obtain ⟨hc, hf⟩ | ⟨hc, hf⟩ := hf
        · refine zv_brT (off := 32) (tt := 70) (r := []) zq_32 zo_32 hc rfl rfl rfl ?_
          replace hf := zf_ite hf
          obtain ⟨hc, hf⟩ | ⟨hc, hf⟩ := hf
          · cases hf; exact zv_t zq_32 zo_32 rfl rfl rfl rfl rfl rfl rfl rfl rfl hc
          · cases hf
        · refine zv_brF (off := 32) (tt := 70) (r := []) zq_32 zo_32 hc rfl rfl rfl ?_
          refine zv_p (k := 2) (f' := (44, [(6, .ref v1), (0, .ref p0), (1, .int p1), (2, .int p2), (3, .int p3), (4, .int p4), (5, .int p5)], [.int (1 : Int32), .int p5])) zq_32 zo_32 (by with_unfolding_all rfl) ?_
          replace hf := zf_ite hf
          obtain ⟨hc, hf⟩ | ⟨hc, hf⟩ := hf
          · refine zv_brT (off := 26) (tt := 70) (r := []) zq_32 zo_32 hc rfl rfl rfl ?_
            replace hf := zf_ite hf
            obtain ⟨hc, hf⟩ | ⟨hc, hf⟩ := hf
            · cases hf; exact zv_t zq_32 zo_32 rfl rfl rfl rfl rfl rfl rfl rfl rfl hc
            · cases hf
          · refine zv_brF (off := 26) (tt := 70) (r := []) zq_32 zo_32 hc rfl rfl rfl ?_
            refine zv_p (k := 2) (f' := (51, [(6, .ref v1), (0, .ref p0), (1, .int p1), (2, .int p2), (3, .int p3), (4, .int p4), (5, .int p5)], [.int (40 : Int32), .int p5])) zq_32 zo_32 (by with_unfolding_all rfl) ?_
            replace hf := zf_ite hf
            obtain ⟨hc, hf⟩ | ⟨hc, hf⟩ := hf
            · refine zv_brT (off := 19) (tt := 70) (r := []) zq_32 zo_32 hc rfl rfl rfl ?_
              replace hf := zf_ite hf
              obtain ⟨hc, hf⟩ | ⟨hc, hf⟩ := hf
              · cases hf; exact zv_t zq_32 zo_32 rfl rfl rfl rfl rfl rfl rfl rfl rfl hc
              · cases hf
            · refine zv_brF (off := 19) (tt := 70) (r := []) zq_32 zo_32 hc rfl rfl rfl ?_
              refine zv_p (k := 8) (f' := (64, [(6, .ref v1), (0, .ref p0), (1, .int p1), (2, .int p2), (3, .int p3), (4, .int p4), (5, .int p5)], [.long ((p3 + (p4 * (p5 - (1 : Int32))))).toInt64])) zq_32 zo_32 (by with_unfolding_all rfl) ?_
              replace hf := zf_b2e hf
              obtain ⟨v8, h9, hv, hf⟩ := hf
              refine zv_c zq_32 zo_32 rfl rfl rfl rfl rfl rfl (t_f_ColumnVault_isNumber _ _ _ _ hv) ?_
              replace hf := zf_ite hf
              obtain ⟨hc, hf⟩ | ⟨hc, hf⟩ := hf
              · refine zv_brT (off := 13) (tt := 80) (r := []) zq_32 zo_32 hc rfl rfl rfl ?_
                refine zv_p (k := 1) (f' := (82, [(6, .ref v1), (0, .ref p0), (1, .int p1), (2, .int p2), (3, .int p3), (4, .int p4), (5, .int p5)], [.ref v1])) zq_32 zo_32 (by with_unfolding_all rfl) ?_
                replace hf := zf_be hf
                obtain ⟨v10, hv, hf⟩ := hf
                refine zv_gf zq_32 zo_32 rfl rfl rfl (zf_Ie hv) ?_
                refine zv_p (k := 3) (f' := (90, [(6, .ref v1), (0, .ref p0), (1, .int p1), (2, .int p2), (3, .int p3), (4, .int p4), (5, .int p5)], [.int (40 : Int32), .int (v10 + p5)])) zq_32 zo_32 (by with_unfolding_all rfl) ?_
                replace hf := zf_ite hf
                obtain ⟨hc, hf⟩ | ⟨hc, hf⟩ := hf
                · refine zv_brT (off := 13) (tt := 103) (r := []) zq_32 zo_32 hc rfl rfl rfl ?_
                  refine zv_p (k := 2) (f' := (105, [(6, .ref v1), (0, .ref p0), (1, .int p1), (2, .int p2), (3, .int p3), (4, .int p4), (5, .int p5)], [.int p1, .ref p0])) zq_32 zo_32 (by with_unfolding_all rfl) ?_
                  replace hf := zf_be hf
                  obtain ⟨_, ho, hf⟩ := hf
                  replace hf := zf_b3e hf
                  obtain ⟨v11, h12, hv, hf⟩ | ⟨E13, h12, hv, hf⟩ := hf
                  rotate_left
                  · cases hf; exact zv_cx zq_32 zo_32 rfl rfl rfl rfl rfl (zv_cv rfl rfl rfl (zf_ise ho) rfl) (t_f_ColumnVault_nextSheetOf _ _ _ _ _ hv) rfl
                  refine zv_c zq_32 zo_32 rfl rfl rfl rfl rfl (zv_cv rfl rfl rfl (zf_ise ho) rfl) (t_f_ColumnVault_nextSheetOf _ _ _ _ _ hv) ?_
                  refine zv_p (k := 3) (f' := (113, [(8, .int (0 : Int32)), (7, .ref v11), (6, .ref v1), (0, .ref p0), (1, .int p1), (2, .int p2), (3, .int p3), (4, .int p4), (5, .int p5)], [])) zq_32 zo_32 (by with_unfolding_all rfl) ?_
                  refine zv_pick (lv' := [(2, .int p2), (3, .int p3), (4, .int p4), (5, .int p5), (7, .ref v11), (8, .int (0 : Int32))]) [2, 3, 4, 5, 7, 8] rfl rfl ?_
                  exact t_f_ColumnVault_fill_113 zF _ _ _ _ _ _ _ _ _ hf
                · refine zv_brF (off := 13) (tt := 103) (r := []) zq_32 zo_32 hc rfl rfl rfl ?_
                  replace hf := zf_ite hf
                  obtain ⟨hc, hf⟩ | ⟨hc, hf⟩ := hf
                  · cases hf; exact zv_t zq_32 zo_32 rfl rfl rfl rfl rfl rfl rfl rfl rfl hc
                  · cases hf
              · refine zv_brF (off := 13) (tt := 80) (r := []) zq_32 zo_32 hc rfl rfl rfl ?_
                replace hf := zf_ite hf
                obtain ⟨hc, hf⟩ | ⟨hc, hf⟩ := hf
                · cases hf; exact zv_t zq_32 zo_32 rfl rfl rfl rfl rfl rfl rfl rfl rfl hc
                · cases hf
/-! ColumnVault.requireRow (LColumnVault$Sheet;I)V -/
noncomputable def zI_38 : zd_T := [[(0, .aload_n 0, 1), (1, .iload_n 1, 1), (2, .invokevirtual 373, 3), (5, .ifCond .ne 14, 3), (8, .new 153, 3), (11, .dup, 1), (12, .ldc_w 376, 3), (15, .invokespecial 157, 3), (18, .athrow, 1), (19, .return_, 1)]]
theorem zo_38 : zd_of 38 = some zI_38 := rfl
set_option maxRecDepth 100000 in
theorem zq_38 : zt_m[38]? = some (⟨"ColumnVault", "requireRow", "(LColumnVault$Sheet;I)V"⟩, prog_1_method_48_code, 2, none, [], 12, 2, 0, 1, 99999, 0) := rfl
