set_option maxHeartbeats 1000000 in
def f_Checks_isInBothOrders_31 : Nat → Nat → Nat → Int32 → Int32 → Int32 → zx_H → Option (Int32 × zx_H)
  | 0, _, _, _, _, _, _ => none
  | n + 1, p0, p1, p2, p3, p4, h =>
    zf_b (zf_A 2 0 p0 h) fun v1 =>
    zf_b (zf_I 10 4 v1 h) fun v2 =>
    if v2 ≤ p4 then
      zf_b (zf_A 2 0 p0 h) fun v3 =>
      zf_b (zf_A 2 0 p0 h) fun v4 =>
      zf_b (zf_I 10 4 v4 h) fun v5 =>
      zf_b (zf_is 10 v3 h) fun _ =>
      zf_b2 (f_Sheet_rowsUpTo v3 (v5 - (1 : Int32)) h) fun v6 h7 =>
      zf_b (zf_is 10 p1 h7) fun _ =>
      zf_b2 (f_Sheet_allRows p1 h7) fun v8 h9 =>
      if ¬ v6 = v8 then
        some ((0 : Int32), h9)
      else
        some ((1 : Int32), h9)
    else
      zf_b (zf_A 2 0 p0 h) fun v10 =>
      zf_b (zf_is 10 v10 h) fun _ =>
      zf_b2 (f_Sheet_rowInOrder v10 (p4 - (1 : Int32)) h) fun v11 h12 =>
      zf_b (zf_A 2 0 p0 h12) fun v13 =>
      zf_b (zf_is 10 v13 h12) fun _ =>
      zf_b2 (f_Sheet_rowInOrder v13 p4 h12) fun v14 h15 =>
      zf_b (zf_is 2 p0 h15) fun _ =>
      zf_b2 (f_Checks_standsAhead p0 p1 p2 p3 v11 v14 h15) fun v16 h17 =>
      if ¬ v16 = 0 then
        (f_Checks_isInBothOrders_31 n) p0 p1 p2 p3 (p4 + (1 : Int32)) h17
      else
        some ((0 : Int32), h17)
set_option maxHeartbeats 4000000 in
set_option maxRecDepth 400000 in
theorem t_f_Checks_isInBothOrders_31 {sc : (Nat × (Nat → Int32)) × Bool} {d : Nat} : ∀ (n : Nat) (p0 : Nat) (p1 : Nat) (p2 : Int32) (p3 : Int32) (p4 : Int32) (h : zx_H) (r : Int32) (h' : zx_H), f_Checks_isInBothOrders_31 n p0 p1 p2 p3 p4 h = some (r, h') → zx_T sc (d + 2) 247 (31, [(0, .ref p0), (1, .ref p1), (2, .int p2), (3, .int p3), (4, .int p4)], []) h (zf_oI r) h' := by
  intro n
  induction n with
  | zero => intro p0 p1 p2 p3 p4 h r h' hf; cases hf
  | succ n ih =>
    intro p0 p1 p2 p3 p4 h r h' hf
    unfold f_Checks_isInBothOrders_31 at hf
    refine zv_p (k := 2) (f' := (34, [(0, .ref p0), (1, .ref p1), (2, .int p2), (3, .int p3), (4, .int p4)], [.ref p0, .int p4])) zq_247 zo_247 (by with_unfolding_all rfl) ?_
    replace hf := zf_be hf
    obtain ⟨v1, hv, hf⟩ := hf
    refine zv_gf zq_247 zo_247 rfl rfl rfl (zf_Ae hv) ?_
    replace hf := zf_be hf
    obtain ⟨v2, hv, hf⟩ := hf
    refine zv_gf zq_247 zo_247 rfl rfl rfl (zf_Ie hv) ?_
    replace hf := zf_ite hf
    obtain ⟨hc, hf⟩ | ⟨hc, hf⟩ := hf
    · refine zv_brT (off := 41) (tt := 81) (r := []) zq_247 zo_247 hc rfl rfl rfl ?_
      refine zv_p (k := 1) (f' := (82, [(0, .ref p0), (1, .ref p1), (2, .int p2), (3, .int p3), (4, .int p4)], [.ref p0])) zq_247 zo_247 (by with_unfolding_all rfl) ?_
      replace hf := zf_be hf
      obtain ⟨v3, hv, hf⟩ := hf
      refine zv_gf zq_247 zo_247 rfl rfl rfl (zf_Ae hv) ?_
      refine zv_p (k := 1) (f' := (86, [(0, .ref p0), (1, .ref p1), (2, .int p2), (3, .int p3), (4, .int p4)], [.ref p0, .ref v3])) zq_247 zo_247 (by with_unfolding_all rfl) ?_
      replace hf := zf_be hf
      obtain ⟨v4, hv, hf⟩ := hf
      refine zv_gf zq_247 zo_247 rfl rfl rfl (zf_Ae hv) ?_
      replace hf := zf_be hf
      obtain ⟨v5, hv, hf⟩ := hf
      refine zv_gf zq_247 zo_247 rfl rfl rfl (zf_Ie hv) ?_
      refine zv_p (k := 2) (f' := (94, [(0, .ref p0), (1, .ref p1), (2, .int p2), (3, .int p3), (4, .int p4)], [.int (v5 - (1 : Int32)), .ref v3])) zq_247 zo_247 (by with_unfolding_all rfl) ?_
      replace hf := zf_be hf
      obtain ⟨_, ho, hf⟩ := hf
      replace hf := zf_b2e hf
      obtain ⟨v6, h7, hv, hf⟩ := hf
      refine zv_c zq_247 zo_247 rfl rfl rfl rfl rfl (zv_cv rfl rfl rfl (zf_ise ho) rfl) (t_f_Sheet_rowsUpTo _ _ _ _ _ hv) ?_
      refine zv_p (k := 1) (f' := (98, [(0, .ref p0), (1, .ref p1), (2, .int p2), (3, .int p3), (4, .int p4)], [.ref p1, .long v6])) zq_247 zo_247 (by with_unfolding_all rfl) ?_
      replace hf := zf_be hf
      obtain ⟨_, ho, hf⟩ := hf
      replace hf := zf_b2e hf
      obtain ⟨v8, h9, hv, hf⟩ := hf
      refine zv_c zq_247 zo_247 rfl rfl rfl rfl rfl (zv_cv rfl rfl rfl (zf_ise ho) rfl) (t_f_Sheet_allRows _ _ _ _ hv) ?_
      refine zv_p (k := 1) (f' := (102, [(0, .ref p0), (1, .ref p1), (2, .int p2), (3, .int p3), (4, .int p4)], [.int (lg_cmp v6 v8)])) zq_247 zo_247 (by with_unfolding_all rfl) ?_
      replace hf := zf_ite hf
      obtain ⟨hc, hf⟩ | ⟨hc, hf⟩ := hf
      · refine zv_brT (off := 7) (tt := 109) (r := []) zq_247 zo_247 (zl_ne.mpr hc) rfl rfl rfl ?_
        refine zv_p (k := 1) (f' := (110, [(0, .ref p0), (1, .ref p1), (2, .int p2), (3, .int p3), (4, .int p4)], [.int (0 : Int32)])) zq_247 zo_247 (by with_unfolding_all rfl) ?_
        cases hf
        exact zv_rn zq_247 zo_247 rfl rfl
      · refine zv_brF (off := 7) (tt := 109) (r := []) zq_247 zo_247 (mt zl_ne.mp hc) rfl rfl rfl ?_
        refine zv_p (k := 2) (f' := (110, [(0, .ref p0), (1, .ref p1), (2, .int p2), (3, .int p3), (4, .int p4)], [.int (1 : Int32)])) zq_247 zo_247 (by with_unfolding_all rfl) ?_
        cases hf
        exact zv_rn zq_247 zo_247 rfl rfl
    · refine zv_brF (off := 41) (tt := 81) (r := []) zq_247 zo_247 hc rfl rfl rfl ?_
      refine zv_p (k := 5) (f' := (48, [(0, .ref p0), (1, .ref p1), (2, .int p2), (3, .int p3), (4, .int p4)], [.ref p0, .int p3, .int p2, .ref p1, .ref p0])) zq_247 zo_247 (by with_unfolding_all rfl) ?_
      replace hf := zf_be hf
      obtain ⟨v10, hv, hf⟩ := hf
      refine zv_gf zq_247 zo_247 rfl rfl rfl (zf_Ae hv) ?_
      refine zv_p (k := 3) (f' := (55, [(0, .ref p0), (1, .ref p1), (2, .int p2), (3, .int p3), (4, .int p4)], [.int (p4 - (1 : Int32)), .ref v10, .int p3, .int p2, .ref p1, .ref p0])) zq_247 zo_247 (by with_unfolding_all rfl) ?_
      replace hf := zf_be hf
      obtain ⟨_, ho, hf⟩ := hf
      replace hf := zf_b2e hf
      obtain ⟨v11, h12, hv, hf⟩ := hf
      refine zv_c zq_247 zo_247 rfl rfl rfl rfl rfl (zv_cv rfl rfl rfl (zf_ise ho) rfl) (t_f_Sheet_rowInOrder _ _ _ _ _ hv) ?_
      refine zv_p (k := 1) (f' := (59, [(0, .ref p0), (1, .ref p1), (2, .int p2), (3, .int p3), (4, .int p4)], [.ref p0, .int v11, .int p3, .int p2, .ref p1, .ref p0])) zq_247 zo_247 (by with_unfolding_all rfl) ?_
      replace hf := zf_be hf
      obtain ⟨v13, hv, hf⟩ := hf
      refine zv_gf zq_247 zo_247 rfl rfl rfl (zf_Ae hv) ?_
      refine zv_p (k := 1) (f' := (64, [(0, .ref p0), (1, .ref p1), (2, .int p2), (3, .int p3), (4, .int p4)], [.int p4, .ref v13, .int v11, .int p3, .int p2, .ref p1, .ref p0])) zq_247 zo_247 (by with_unfolding_all rfl) ?_
      replace hf := zf_be hf
      obtain ⟨_, ho, hf⟩ := hf
      replace hf := zf_b2e hf
      obtain ⟨v14, h15, hv, hf⟩ := hf
      refine zv_c zq_247 zo_247 rfl rfl rfl rfl rfl (zv_cv rfl rfl rfl (zf_ise ho) rfl) (t_f_Sheet_rowInOrder _ _ _ _ _ hv) ?_
      replace hf := zf_be hf
      obtain ⟨_, ho, hf⟩ := hf
      replace hf := zf_b2e hf
      obtain ⟨v16, h17, hv, hf⟩ := hf
      refine zv_c zq_247 zo_247 rfl rfl rfl rfl rfl (zv_cv rfl rfl rfl (zf_ise ho) rfl) (t_f_Checks_standsAhead _ _ _ _ _ _ _ _ _ hv) ?_
      replace hf := zf_ite hf
      obtain ⟨hc, hf⟩ | ⟨hc, hf⟩ := hf
      · refine zv_brT (off := 5) (tt := 75) (r := []) zq_247 zo_247 hc rfl rfl rfl ?_
        refine zv_p (k := 2) (f' := (31, [(4, .int (p4 + (1 : Int32))), (0, .ref p0), (1, .ref p1), (2, .int p2), (3, .int p3)], [])) zq_247 zo_247 (by with_unfolding_all rfl) ?_
        refine zv_pick (lv' := [(0, .ref p0), (1, .ref p1), (2, .int p2), (3, .int p3), (4, .int (p4 + (1 : Int32)))]) [0, 1, 2, 3, 4] rfl rfl ?_
        exact ih _ _ _ _ _ _ _ _ hf
      · refine zv_brF (off := 5) (tt := 75) (r := []) zq_247 zo_247 hc rfl rfl rfl ?_
        refine zv_p (k := 1) (f' := (74, [(0, .ref p0), (1, .ref p1), (2, .int p2), (3, .int p3), (4, .int p4)], [.int (0 : Int32)])) zq_247 zo_247 (by with_unfolding_all rfl) ?_
        cases hf
        exact zv_rn zq_247 zo_247 rfl rfl
set_option maxHeartbeats 1000000 in
def f_Checks_isInBothOrders (p0 : Nat) (p1 : Nat) (p2 : Int32) (p3 : Int32) (h : zx_H) : Option (Int32 × zx_H) :=
  zf_b (zf_A 2 0 p0 h) fun v1 =>
  zf_b (zf_is 10 v1 h) fun _ =>
  zf_b2 (f_Sheet_copyFrom v1 p1 h) fun _ h3 =>
  zf_b (zf_A 2 0 p0 h3) fun v4 =>
  zf_b (zf_is 10 v4 h3) fun _ =>
  zf_b2 (f_Sheet_orderBy v4 p2 (0 : Int32) (0 : Int32) h3) fun _ h6 =>
  zf_b (zf_A 2 0 p0 h6) fun v7 =>
  zf_b (zf_is 10 v7 h6) fun _ =>
  zf_b2 (f_Sheet_orderBy v7 p3 (0 : Int32) (0 : Int32) h6) fun _ h9 =>
  f_Checks_isInBothOrders_31 zF p0 p1 p2 p3 (1 : Int32) h9
set_option maxHeartbeats 4000000 in
set_option maxRecDepth 400000 in
theorem t_f_Checks_isInBothOrders {sc : (Nat × (Nat → Int32)) × Bool} {d : Nat} (p0 : Nat) (p1 : Nat) (p2 : Int32) (p3 : Int32) (h : zx_H) (r : Int32) (h' : zx_H) (hf : f_Checks_isInBothOrders p0 p1 p2 p3 h = some (r, h')) : zx_T sc (d + 2) 247 (0, [(0, .ref p0), (1, .ref p1), (2, .int p2), (3, .int p3)], []) h (zf_oI r) h' := by
  unfold f_Checks_isInBothOrders at hf
  refine zv_p (k := 1) (f' := (1, [(0, .ref p0), (1, .ref p1), (2, .int p2), (3, .int p3)], [.ref p0])) zq_247 zo_247 (by with_unfolding_all rfl) ?_
  replace hf := zf_be hf
  obtain ⟨v1, hv, hf⟩ := hf
  refine zv_gf zq_247 zo_247 rfl rfl rfl (zf_Ae hv) ?_
  refine zv_p (k := 1) (f' := (5, [(0, .ref p0), (1, .ref p1), (2, .int p2), (3, .int p3)], [.ref p1, .ref v1])) zq_247 zo_247 (by with_unfolding_all rfl) ?_
  replace hf := zf_be hf
  obtain ⟨_, ho, hf⟩ := hf
  replace hf := zf_b2e hf
  obtain ⟨v2, h3, hv, hf⟩ := hf
  refine zv_c zq_247 zo_247 rfl rfl rfl rfl rfl (zv_cv rfl rfl rfl (zf_ise ho) rfl) (t_f_Sheet_copyFrom _ _ _ _ _ hv) ?_
  refine zv_p (k := 1) (f' := (9, [(0, .ref p0), (1, .ref p1), (2, .int p2), (3, .int p3)], [.ref p0])) zq_247 zo_247 (by with_unfolding_all rfl) ?_
  replace hf := zf_be hf
  obtain ⟨v4, hv, hf⟩ := hf
  refine zv_gf zq_247 zo_247 rfl rfl rfl (zf_Ae hv) ?_
  refine zv_p (k := 3) (f' := (15, [(0, .ref p0), (1, .ref p1), (2, .int p2), (3, .int p3)], [.int (0 : Int32), .int (0 : Int32), .int p2, .ref v4])) zq_247 zo_247 (by with_unfolding_all rfl) ?_
  replace hf := zf_be hf
  obtain ⟨_, ho, hf⟩ := hf
  replace hf := zf_b2e hf
  obtain ⟨v5, h6, hv, hf⟩ := hf
  refine zv_c zq_247 zo_247 rfl rfl rfl rfl rfl (zv_cv rfl rfl rfl (zf_ise ho) rfl) (t_f_Sheet_orderBy _ _ _ _ _ _ _ hv) ?_
  refine zv_p (k := 1) (f' := (19, [(0, .ref p0), (1, .ref p1), (2, .int p2), (3, .int p3)], [.ref p0])) zq_247 zo_247 (by with_unfolding_all rfl) ?_
  replace hf := zf_be hf
  obtain ⟨v7, hv, hf⟩ := hf
  refine zv_gf zq_247 zo_247 rfl rfl rfl (zf_Ae hv) ?_
  refine zv_p (k := 3) (f' := (25, [(0, .ref p0), (1, .ref p1), (2, .int p2), (3, .int p3)], [.int (0 : Int32), .int (0 : Int32), .int p3, .ref v7])) zq_247 zo_247 (by with_unfolding_all rfl) ?_
  replace hf := zf_be hf
  obtain ⟨_, ho, hf⟩ := hf
  replace hf := zf_b2e hf
  obtain ⟨v8, h9, hv, hf⟩ := hf
  refine zv_c zq_247 zo_247 rfl rfl rfl rfl rfl (zv_cv rfl rfl rfl (zf_ise ho) rfl) (t_f_Sheet_orderBy _ _ _ _ _ _ _ hv) ?_
  refine zv_p (k := 2) (f' := (31, [(4, .int (1 : Int32)), (0, .ref p0), (1, .ref p1), (2, .int p2), (3, .int p3)], [])) zq_247 zo_247 (by with_unfolding_all rfl) ?_
  refine zv_pick (lv' := [(0, .ref p0), (1, .ref p1), (2, .int p2), (3, .int p3), (4, .int (1 : Int32))]) [0, 1, 2, 3, 4] rfl rfl ?_
  exact t_f_Checks_isInBothOrders_31 zF _ _ _ _ _ _ _ _ hf
/-! ColumnVault$Groups.open (IJ)V -/
noncomputable def zI_252 : zd_T := [[(0, .aload_n 0, 1), (1, .getfield 29, 3), (4, .bipush 40, 2), (6, .if_icmp .lt 4, 3), (9, .return_, 1), (10, .aload_n 0, 1), (11, .getfield 29, 3), (14, .istore 4, 2), (16, .iload 4, 2), (18, .iload_n 1, 1), (19, .if_icmp .le 41, 3), (22, .aload_n 0, 1), (23, .getfield 18, 3), (26, .iload 4, 2), (28, .aload_n 0, 1), (29, .getfield 18, 3)], [(32, .iload 4, 2), (34, .iconst 1, 1), (35, .isub, 1), (36, .laload, 1), (37, .lastore, 1), (38, .aload_n 0, 1), (39, .getfield 22, 3), (42, .iload 4, 2), (44, .aload_n 0, 1), (45, .getfield 22, 3), (48, .iload 4, 2), (50, .iconst 1, 1), (51, .isub, 1), (52, .laload, 1), (53, .lastore, 1), (54, .iinc 4 (-1), 3), (57, .goto (-41), 3), (60, .aload_n 0, 1), (61, .getfield 18, 3)], [(64, .iload_n 1, 1), (65, .lload_n 2, 1), (66, .lastore, 1), (67, .aload_n 0, 1), (68, .getfield 22, 3), (71, .iload_n 1, 1), (72, .lconst 0, 1), (73, .lastore, 1), (74, .aload_n 0, 1), (75, .dup, 1), (76, .getfield 29, 3), (79, .iconst 1, 1), (80, .iadd, 1), (81, .putfield 29, 3), (84, .return_, 1)]]
theorem zo_252 : zd_of 252 = some zI_252 := rfl
set_option maxRecDepth 100000 in
theorem zq_252 : zt_m[252]? = some (⟨"ColumnVault$Groups", "open", "(IJ)V"⟩, prog_5_method_4_code, 5, none, [], 5, 2, 0, 0, 0, 0) := rfl
set_option maxHeartbeats 1000000 in
def f_Groups_open_16 : Nat → Nat → Int32 → Int64 → Int32 → zx_H → Option (Unit × zx_H)
  | 0, _, _, _, _, _ => none
  | n + 1, p0, p1, p2, p3, h =>
    if p3 ≤ p1 then
      zf_b (zf_A 5 1 p0 h) fun v1 =>
      zf_b (zf_stJ v1 p1 p2 h) fun h2 =>
      zf_b (zf_A 5 2 p0 h2) fun v3 =>
      zf_b (zf_stJ v3 p1 (0 : Int64) h2) fun h4 =>
      zf_b (zf_I 5 4 p0 h4) fun v5 =>
      zf_b (zf_put 5 4 p0 (.int (v5 + (1 : Int32))) h4) fun h6 =>
      some ((), h6)
    else
      zf_b (zf_A 5 1 p0 h) fun v7 =>
      zf_b (zf_A 5 1 p0 h) fun v8 =>
      zf_b (zf_ldJ v8 (p3 - (1 : Int32)) h) fun v9 =>
      zf_b (zf_stJ v7 p3 v9 h) fun h10 =>
      zf_b (zf_A 5 2 p0 h10) fun v11 =>
      zf_b (zf_A 5 2 p0 h10) fun v12 =>
      zf_b (zf_ldJ v12 (p3 - (1 : Int32)) h10) fun v13 =>
      zf_b (zf_stJ v11 p3 v13 h10) fun h14 =>
      (f_Groups_open_16 n) p0 p1 p2 (p3 + (-1 : Int32)) h14
set_option maxHeartbeats 4000000 in
set_option maxRecDepth 400000 in
theorem t_f_Groups_open_16 {sc : (Nat × (Nat → Int32)) × Bool} {d : Nat} : ∀ (n : Nat) (p0 : Nat) (p1 : Int32) (p2 : Int64) (p3 : Int32) (h : zx_H) (r : Unit) (h' : zx_H), f_Groups_open_16 n p0 p1 p2 p3 h = some (r, h') → zx_T sc d 252 (16, [(0, .ref p0), (1, .int p1), (2, .long p2), (4, .int p3)], []) h (zf_oV r) h' := by
  intro n
  induction n with
  | zero => intro p0 p1 p2 p3 h r h' hf; cases hf
  | succ n ih =>
    intro p0 p1 p2 p3 h r h' hf
    unfold f_Groups_open_16 at hf
    refine zv_p (k := 2) (f' := (19, [(0, .ref p0), (1, .int p1), (2, .long p2), (4, .int p3)], [.int p1, .int p3])) zq_252 zo_252 (by with_unfolding_all rfl) ?_
    replace hf := zf_ite hf
    obtain ⟨hc, hf⟩ | ⟨hc, hf⟩ := hf
    · refine zv_brT (off := 41) (tt := 60) (r := []) zq_252 zo_252 hc rfl rfl rfl ?_
      refine zv_p (k := 1) (f' := (61, [(0, .ref p0), (1, .int p1), (2, .long p2), (4, .int p3)], [.ref p0])) zq_252 zo_252 (by with_unfolding_all rfl) ?_
      replace hf := zf_be hf
      obtain ⟨v1, hv, hf⟩ := hf
      refine zv_gf zq_252 zo_252 rfl rfl rfl (zf_Ae hv) ?_
      refine zv_p (k := 2) (f' := (66, [(0, .ref p0), (1, .int p1), (2, .long p2), (4, .int p3)], [.long p2, .int p1, .ref v1])) zq_252 zo_252 (by with_unfolding_all rfl) ?_
      replace hf := zf_be hf
      obtain ⟨h2, hv, hf⟩ := hf
      refine zv_stJ zq_252 zo_252 rfl hv ?_
      refine zv_p (k := 1) (f' := (68, [(0, .ref p0), (1, .int p1), (2, .long p2), (4, .int p3)], [.ref p0])) zq_252 zo_252 (by with_unfolding_all rfl) ?_
      replace hf := zf_be hf
      obtain ⟨v3, hv, hf⟩ := hf
      refine zv_gf zq_252 zo_252 rfl rfl rfl (zf_Ae hv) ?_
      refine zv_p (k := 2) (f' := (73, [(0, .ref p0), (1, .int p1), (2, .long p2), (4, .int p3)], [.long (0 : Int64), .int p1, .ref v3])) zq_252 zo_252 (by with_unfolding_all rfl) ?_
      replace hf := zf_be hf
      obtain ⟨h4, hv, hf⟩ := hf
      refine zv_stJ zq_252 zo_252 rfl hv ?_
      refine zv_p (k := 2) (f' := (76, [(0, .ref p0), (1, .int p1), (2, .long p2), (4, .int p3)], [.ref p0, .ref p0])) zq_252 zo_252 (by with_unfolding_all rfl) ?_
      replace hf := zf_be hf
      obtain ⟨v5, hv, hf⟩ := hf
      refine zv_gf zq_252 zo_252 rfl rfl rfl (zf_Ie hv) ?_
      refine zv_p (k := 2) (f' := (81, [(0, .ref p0), (1, .int p1), (2, .long p2), (4, .int p3)], [.int (v5 + (1 : Int32)), .ref p0])) zq_252 zo_252 (by with_unfolding_all rfl) ?_
      replace hf := zf_be hf
      obtain ⟨h6, hv, hf⟩ := hf
      refine zv_pf zq_252 zo_252 rfl rfl rfl rfl hv ?_
      cases hf
      exact zv_r zq_252 zo_252 rfl rfl rfl rfl rfl
    · refine zv_brF (off := 41) (tt := 60) (r := []) zq_252 zo_252 hc rfl rfl rfl ?_
      refine zv_p (k := 1) (f' := (23, [(0, .ref p0), (1, .int p1), (2, .long p2), (4, .int p3)], [.ref p0])) zq_252 zo_252 (by with_unfolding_all rfl) ?_
      replace hf := zf_be hf
      obtain ⟨v7, hv, hf⟩ := hf
      refine zv_gf zq_252 zo_252 rfl rfl rfl (zf_Ae hv) ?_
      refine zv_p (k := 2) (f' := (29, [(0, .ref p0), (1, .int p1), (2, .long p2), (4, .int p3)], [.ref p0, .int p3, .ref v7])) zq_252 zo_252 (by with_unfolding_all rfl) ?_
      replace hf := zf_be hf
      obtain ⟨v8, hv, hf⟩ := hf
      refine zv_gf zq_252 zo_252 rfl rfl rfl (zf_Ae hv) ?_
      refine zv_p (k := 3) (f' := (36, [(0, .ref p0), (1, .int p1), (2, .long p2), (4, .int p3)], [.int (p3 - (1 : Int32)), .ref v8, .int p3, .ref v7])) zq_252 zo_252 (by with_unfolding_all rfl) ?_
      replace hf := zf_be hf
      obtain ⟨v9, hv, hf⟩ := hf
      refine zv_ldJ zq_252 zo_252 rfl hv ?_
      replace hf := zf_be hf
      obtain ⟨h10, hv, hf⟩ := hf
      refine zv_stJ zq_252 zo_252 rfl hv ?_
      refine zv_p (k := 1) (f' := (39, [(0, .ref p0), (1, .int p1), (2, .long p2), (4, .int p3)], [.ref p0])) zq_252 zo_252 (by with_unfolding_all rfl) ?_
      replace hf := zf_be hf
      obtain ⟨v11, hv, hf⟩ := hf
      refine zv_gf zq_252 zo_252 rfl rfl rfl (zf_Ae hv) ?_
      refine zv_p (k := 2) (f' := (45, [(0, .ref p0), (1, .int p1), (2, .long p2), (4, .int p3)], [.ref p0, .int p3, .ref v11])) zq_252 zo_252 (by with_unfolding_all rfl) ?_
      replace hf := zf_be hf
      obtain ⟨v12, hv, hf⟩ := hf
      refine zv_gf zq_252 zo_252 rfl rfl rfl (zf_Ae hv) ?_
      refine zv_p (k := 3) (f' := (52, [(0, .ref p0), (1, .int p1), (2, .long p2), (4, .int p3)], [.int (p3 - (1 : Int32)), .ref v12, .int p3, .ref v11])) zq_252 zo_252 (by with_unfolding_all rfl) ?_
      replace hf := zf_be hf
      obtain ⟨v13, hv, hf⟩ := hf
      refine zv_ldJ zq_252 zo_252 rfl hv ?_
      replace hf := zf_be hf
      obtain ⟨h14, hv, hf⟩ := hf
      refine zv_stJ zq_252 zo_252 rfl hv ?_
      refine zv_p (k := 2) (f' := (16, [(4, .int (p3 + (-1 : Int32))), (0, .ref p0), (1, .int p1), (2, .long p2)], [])) zq_252 zo_252 (by with_unfolding_all rfl) ?_
      refine zv_pick (lv' := [(0, .ref p0), (1, .int p1), (2, .long p2), (4, .int (p3 + (-1 : Int32)))]) [0, 1, 2, 4] rfl rfl ?_
      exact ih _ _ _ _ _ _ _ hf
set_option maxHeartbeats 1000000 in
def f_Groups_open (p0 : Nat) (p1 : Int32) (p2 : Int64) (h : zx_H) : Option (Unit × zx_H) :=
  zf_b (zf_I 5 4 p0 h) fun v1 =>
  if v1 < (40 : Int32) then
    zf_b (zf_I 5 4 p0 h) fun v2 =>
    f_Groups_open_16 zF p0 p1 p2 v2 h
  else
    some ((), h)
set_option maxHeartbeats 4000000 in
set_option maxRecDepth 400000 in
theorem t_f_Groups_open {sc : (Nat × (Nat → Int32)) × Bool} {d : Nat} (p0 : Nat) (p1 : Int32) (p2 : Int64) (h : zx_H) (r : Unit) (h' : zx_H) (hf : f_Groups_open p0 p1 p2 h = some (r, h')) : zx_T sc d 252 (0, [(0, .ref p0), (1, .int p1), (2, .long p2)], []) h (zf_oV r) h' := by
  unfold f_Groups_open at hf
  refine zv_p (k := 1) (f' := (1, [(0, .ref p0), (1, .int p1), (2, .long p2)], [.ref p0])) zq_252 zo_252 (by with_unfolding_all rfl) ?_
  replace hf := zf_be hf
  obtain ⟨v1, hv, hf⟩ := hf
  refine zv_gf zq_252 zo_252 rfl rfl rfl (zf_Ie hv) ?_
  refine zv_p (k := 1) (f' := (6, [(0, .ref p0), (1, .int p1), (2, .long p2)], [.int (40 : Int32), .int v1])) zq_252 zo_252 (by with_unfolding_all rfl) ?_
  replace hf := zf_ite hf
  obtain ⟨hc, hf⟩ | ⟨hc, hf⟩ := hf
  · refine zv_brT (off := 4) (tt := 10) (r := []) zq_252 zo_252 hc rfl rfl rfl ?_
    refine zv_p (k := 1) (f' := (11, [(0, .ref p0), (1, .int p1), (2, .long p2)], [.ref p0])) zq_252 zo_252 (by with_unfolding_all rfl) ?_
    replace hf := zf_be hf
    obtain ⟨v2, hv, hf⟩ := hf
    refine zv_gf zq_252 zo_252 rfl rfl rfl (zf_Ie hv) ?_
    refine zv_p (k := 1) (f' := (16, [(4, .int v2), (0, .ref p0), (1, .int p1), (2, .long p2)], [])) zq_252 zo_252 (by with_unfolding_all rfl) ?_
    refine zv_pick (lv' := [(0, .ref p0), (1, .int p1), (2, .long p2), (4, .int v2)]) [0, 1, 2, 4] rfl rfl ?_
    exact t_f_Groups_open_16 zF _ _ _ _ _ _ _ hf
  · refine zv_brF (off := 4) (tt := 10) (r := []) zq_252 zo_252 hc rfl rfl rfl ?_
    cases hf
    exact zv_r zq_252 zo_252 rfl rfl rfl rfl rfl
/-! ColumnVault$Groups.put (I)V -/
noncomputable def zI_251 : zd_T := [[(0, .aload_n 0, 1), (1, .getfield 12, 3), (4, .aload_n 0, 1), (5, .getfield 25, 3), (8, .iload_n 1, 1), (9, .invokevirtual 51, 3), (12, .lstore_n 2, 1), (13, .iconst 0, 1), (14, .istore 4, 2), (16, .iload 4, 2), (18, .aload_n 0, 1), (19, .getfield 29, 3), (22, .if_icmp .ge 25, 3), (25, .aload_n 0, 1), (26, .getfield 18, 3), (29, .iload 4, 2), (31, .laload, 1)], [(32, .lload_n 2, 1), (33, .iconst 0, 1), (34, .iconst 0, 1), (35, .invokestatic 55, 3), (38, .ifCond .eq 9, 3), (41, .iinc 4 1, 3), (44, .goto (-28), 3), (47, .iload 4, 2), (49, .aload_n 0, 1), (50, .getfield 29, 3), (53, .if_icmp .eq 15, 3), (56, .aload_n 0, 1), (57, .getfield 18, 3), (60, .iload 4, 2), (62, .laload, 1), (63, .lload_n 2, 1)], [(64, .lcmp, 1), (65, .ifCond .eq 10, 3), (68, .aload_n 0, 1), (69, .iload 4, 2), (71, .lload_n 2, 1), (72, .invokevirtual 59, 3), (75, .iload 4, 2), (77, .aload_n 0, 1), (78, .getfield 29, 3), (81, .if_icmp .ge 16, 3), (84, .aload_n 0, 1), (85, .getfield 22, 3), (88, .iload 4, 2), (90, .dup2, 1), (91, .laload, 1), (92, .lconst 1, 1), (93, .iload_n 1, 1), (94, .lshl, 1), (95, .lor, 1)], [(96, .lastore, 1), (97, .return_, 1)]]
theorem zo_251 : zd_of 251 = some zI_251 := rfl
set_option maxRecDepth 100000 in
theorem zq_251 : zt_m[251]? = some (⟨"ColumnVault$Groups", "put", "(I)V"⟩, prog_5_method_3_code, 5, none, [], 5, 1, 0, 0, 0, 0) := rfl
set_option maxHeartbeats 1000000 in
def f_Groups_put_75 (p0 : Nat) (p1 : Int32) (p2 : Int32) (h : zx_H) : Option (Unit × zx_H) :=
  zf_b (zf_I 5 4 p0 h) fun v1 =>
  if v1 ≤ p2 then
    some ((), h)
  else
    zf_b (zf_A 5 2 p0 h) fun v2 =>
    zf_b (zf_ldJ v2 p2 h) fun v3 =>
    zf_b (zf_stJ v2 p2 (v3 ||| ((1 : Int64) <<< ((p1).toInt64 &&& 63))) h) fun h4 =>
    some ((), h4)
set_option maxHeartbeats 4000000 in
set_option maxRecDepth 400000 in
theorem t_f_Groups_put_75 {sc : (Nat × (Nat → Int32)) × Bool} {d : Nat} (p0 : Nat) (p1 : Int32) (p2 : Int32) (h : zx_H) (r : Unit) (h' : zx_H) (hf : f_Groups_put_75 p0 p1 p2 h = some (r, h')) : zx_T sc (d + 1) 251 (75, [(0, .ref p0), (1, .int p1), (4, .int p2)], []) h (zf_oV r) h' := by
  unfold f_Groups_put_75 at hf
  refine zv_p (k := 2) (f' := (78, [(0, .ref p0), (1, .int p1), (4, .int p2)], [.ref p0, .int p2])) zq_251 zo_251 (by with_unfolding_all rfl) ?_
  replace hf := zf_be hf
  obtain ⟨v1, hv, hf⟩ := hf
  refine zv_gf zq_251 zo_251 rfl rfl rfl (zf_Ie hv) ?_
  replace hf := zf_ite hf
  obtain ⟨hc, hf⟩ | ⟨hc, hf⟩ := hf
  · refine zv_brT (off := 16) (tt := 97) (r := []) zq_251 zo_251 hc rfl rfl rfl ?_
    cases hf
    exact zv_r zq_251 zo_251 rfl rfl rfl rfl rfl
  · refine zv_brF (off := 16) (tt := 97) (r := []) zq_251 zo_251 hc rfl rfl rfl ?_
    refine zv_p (k := 1) (f' := (85, [(0, .ref p0), (1, .int p1), (4, .int p2)], [.ref p0])) zq_251 zo_251 (by with_unfolding_all rfl) ?_
    replace hf := zf_be hf
    obtain ⟨v2, hv, hf⟩ := hf
    refine zv_gf zq_251 zo_251 rfl rfl rfl (zf_Ae hv) ?_
    refine zv_p (k := 2) (f' := (91, [(0, .ref p0), (1, .int p1), (4, .int p2)], [.int p2, .ref v2, .int p2, .ref v2])) zq_251 zo_251 (by with_unfolding_all rfl) ?_
    replace hf := zf_be hf
    obtain ⟨v3, hv, hf⟩ := hf
    refine zv_ldJ zq_251 zo_251 rfl hv ?_
    refine zv_p (k := 4) (f' := (96, [(0, .ref p0), (1, .int p1), (4, .int p2)], [.long (v3 ||| ((1 : Int64) <<< ((p1).toInt64 &&& 63))), .int p2, .ref v2])) zq_251 zo_251 (by with_unfolding_all rfl) ?_
    replace hf := zf_be hf
    obtain ⟨h4, hv, hf⟩ := hf
    refine zv_stJ zq_251 zo_251 rfl hv ?_
    cases hf
    exact zv_r zq_251 zo_251 rfl rfl rfl rfl rfl
set_option maxHeartbeats 1000000 in
def f_Groups_put_47 (p0 : Nat) (p1 : Int32) (p2 : Int64) (p3 : Int32) (h : zx_H) : Option (Unit × zx_H) :=
  zf_b (zf_I 5 4 p0 h) fun v1 =>
  if p3 = v1 then
    zf_b (zf_is 5 p0 h) fun _ =>
    zf_b2 (f_Groups_open p0 p3 p2 h) fun _ h3 =>
    f_Groups_put_75 p0 p1 p3 h3
  else
    zf_b (zf_A 5 1 p0 h) fun v4 =>
    zf_b (zf_ldJ v4 p3 h) fun v5 =>
    if v5 = p2 then
      f_Groups_put_75 p0 p1 p3 h
    else
      zf_b (zf_is 5 p0 h) fun _ =>
      zf_b2 (f_Groups_open p0 p3 p2 h) fun _ h7 =>
      f_Groups_put_75 p0 p1 p3 h7
set_option maxHeartbeats 4000000 in
set_option maxRecDepth 400000 in
theorem t_f_Groups_put_47 {sc : (Nat × (Nat → Int32)) × Bool} {d : Nat} (p0 : Nat) (p1 : Int32) (p2 : Int64) (p3 : Int32) (h : zx_H) (r : Unit) (h' : zx_H) (hf : f_Groups_put_47 p0 p1 p2 p3 h = some (r, h')) : zx_T sc (d + 1) 251 (47, [(0, .ref p0), (1, .int p1), (2, .long p2), (4, .int p3)], []) h (zf_oV r) h' := by
  unfold f_Groups_put_47 at hf
  refine zv_p (k := 2) (f' := (50, [(0, .ref p0), (1, .int p1), (2, .long p2), (4, .int p3)], [.ref p0, .int p3])) zq_251 zo_251 (by with_unfolding_all rfl) ?_
  replace hf := zf_be hf
  obtain ⟨v1, hv, hf⟩ := hf
  refine zv_gf zq_251 zo_251 rfl rfl rfl (zf_Ie hv) ?_
  replace hf := zf_ite hf
  obtain ⟨hc, hf⟩ | ⟨hc, hf⟩ := hf
  · refine zv_brT (off := 15) (tt := 68) (r := []) zq_251 zo_251 hc rfl rfl rfl ?_
    refine zv_p (k := 3) (f' := (72, [(0, .ref p0), (1, .int p1), (2, .long p2), (4, .int p3)], [.long p2, .int p3, .ref p0])) zq_251 zo_251 (by with_unfolding_all rfl) ?_
    replace hf := zf_be hf
    obtain ⟨_, ho, hf⟩ := hf
    replace hf := zf_b2e hf
    obtain ⟨v2, h3, hv, hf⟩ := hf
    refine zv_c zq_251 zo_251 rfl rfl rfl rfl rfl (zv_cv rfl rfl rfl (zf_ise ho) rfl) (t_f_Groups_open _ _ _ _ _ _ hv) ?_
    refine zv_pick (lv' := [(0, .ref p0), (1, .int p1), (4, .int p3)]) [0, 1, 4] rfl rfl ?_
    exact t_f_Groups_put_75 _ _ _ _ _ _ hf
  · refine zv_brF (off := 15) (tt := 68) (r := []) zq_251 zo_251 hc rfl rfl rfl ?_
    refine zv_p (k := 1) (f' := (57, [(0, .ref p0), (1, .int p1), (2, .long p2), (4, .int p3)], [.ref p0])) zq_251 zo_251 (by with_unfolding_all rfl) ?_
    replace hf := zf_be hf
    obtain ⟨v4, hv, hf⟩ := hf
    refine zv_gf zq_251 zo_251 rfl rfl rfl (zf_Ae hv) ?_
    refine zv_p (k := 1) (f' := (62, [(0, .ref p0), (1, .int p1), (2, .long p2), (4, .int p3)], [.int p3, .ref v4])) zq_251 zo_251 (by with_unfolding_all rfl) ?_
    replace hf := zf_be hf
    obtain ⟨v5, hv, hf⟩ := hf
    refine zv_ldJ zq_251 zo_251 rfl hv ?_
    refine zv_p (k := 2) (f' := (65, [(0, .ref p0), (1, .int p1), (2, .long p2), (4, .int p3)], [.int (lg_cmp v5 p2)])) zq_251 zo_251 (by with_unfolding_all rfl) ?_
    replace hf := zf_ite hf
    obtain ⟨hc, hf⟩ | ⟨hc, hf⟩ := hf
    · refine zv_brT (off := 10) (tt := 75) (r := []) zq_251 zo_251 (zl_eq.mpr hc) rfl rfl rfl ?_
      refine zv_pick (lv' := [(0, .ref p0), (1, .int p1), (4, .int p3)]) [0, 1, 4] rfl rfl ?_
      exact t_f_Groups_put_75 _ _ _ _ _ _ hf
    · refine zv_brF (off := 10) (tt := 75) (r := []) zq_251 zo_251 (mt zl_eq.mp hc) rfl rfl rfl ?_
      refine zv_p (k := 3) (f' := (72, [(0, .ref p0), (1, .int p1), (2, .long p2), (4, .int p3)], [.long p2, .int p3, .ref p0])) zq_251 zo_251 (by with_unfolding_all rfl) ?_
      replace hf := zf_be hf
      obtain ⟨_, ho, hf⟩ := hf
      replace hf := zf_b2e hf
      obtain ⟨v6, h7, hv, hf⟩ := hf
      refine zv_c zq_251 zo_251 rfl rfl rfl rfl rfl (zv_cv rfl rfl rfl (zf_ise ho) rfl) (t_f_Groups_open _ _ _ _ _ _ hv) ?_
      refine zv_pick (lv' := [(0, .ref p0), (1, .int p1), (4, .int p3)]) [0, 1, 4] rfl rfl ?_
      exact t_f_Groups_put_75 _ _ _ _ _ _ hf
set_option maxHeartbeats 1000000 in
def f_Groups_put_16 : Nat → Nat → Int32 → Int64 → Int32 → zx_H → Option (Unit × zx_H)
  | 0, _, _, _, _, _ => none
  | n + 1, p0, p1, p2, p3, h =>
    zf_b (zf_I 5 4 p0 h) fun v1 =>
    if v1 ≤ p3 then
      f_Groups_put_47 p0 p1 p2 p3 h
    else
      zf_b (zf_A 5 1 p0 h) fun v2 =>
      zf_b (zf_ldJ v2 p3 h) fun v3 =>
      zf_b2 (f_ColumnVault_isAhead v3 p2 (0 : Int32) (0 : Int32) h) fun v4 h5 =>
      if v4 = 0 then
        f_Groups_put_47 p0 p1 p2 p3 h5
      else
        (f_Groups_put_16 n) p0 p1 p2 (p3 + (1 : Int32)) h5
set_option maxHeartbeats 4000000 in
set_option maxRecDepth 400000 in
theorem t_f_Groups_put_16 {sc : (Nat × (Nat → Int32)) × Bool} {d : Nat} : ∀ (n : Nat) (p0 : Nat) (p1 : Int32) (p2 : Int64) (p3 : Int32) (h : zx_H) (r : Unit) (h' : zx_H), f_Groups_put_16 n p0 p1 p2 p3 h = some (r, h') → zx_T sc (d + 1) 251 (16, [(0, .ref p0), (1, .int p1), (2, .long p2), (4, .int p3)], []) h (zf_oV r) h' := by
  intro n
  induction n with
  | zero => intro p0 p1 p2 p3 h r h' hf; cases hf
  | succ n ih =>
    intro p0 p1 p2 p3 h r h' hf
    unfold f_Groups_put_16 at hf
    refine zv_p (k := 2) (f' := (19, [(0, .ref p0), (1, .int p1), (2, .long p2), (4, .int p3)], [.ref p0, .int p3])) zq_251 zo_251 (by with_unfolding_all rfl) ?_
    replace hf := zf_be hf
    obtain ⟨v1, hv, hf⟩ := hf
    refine zv_gf zq_251 zo_251 rfl rfl rfl (zf_Ie hv) ?_
    replace hf := zf_ite hf
    obtain ⟨hc, hf⟩ | ⟨hc, hf⟩ := hf
    · refine zv_brT (off := 25) (tt := 47) (r := []) zq_251 zo_251 hc rfl rfl rfl ?_
      refine zv_pick (lv' := [(0, .ref p0), (1, .int p1), (2, .long p2), (4, .int p3)]) [0, 1, 2, 4] rfl rfl ?_
      exact t_f_Groups_put_47 _ _ _ _ _ _ _ hf
    · refine zv_brF (off := 25) (tt := 47) (r := []) zq_251 zo_251 hc rfl rfl rfl ?_
      refine zv_p (k := 1) (f' := (26, [(0, .ref p0), (1, .int p1), (2, .long p2), (4, .int p3)], [.ref p0])) zq_251 zo_251 (by with_unfolding_all rfl) ?_
      replace hf := zf_be hf
      obtain ⟨v2, hv, hf⟩ := hf
      refine zv_gf zq_251 zo_251 rfl rfl rfl (zf_Ae hv) ?_
      refine zv_p (k := 1) (f' := (31, [(0, .ref p0), (1, .int p1), (2, .long p2), (4, .int p3)], [.int p3, .ref v2])) zq_251 zo_251 (by with_unfolding_all rfl) ?_
      replace hf := zf_be hf
      obtain ⟨v3, hv, hf⟩ := hf
      refine zv_ldJ zq_251 zo_251 rfl hv ?_
      refine zv_p (k := 3) (f' := (35, [(0, .ref p0), (1, .int p1), (2, .long p2), (4, .int p3)], [.int (0 : Int32), .int (0 : Int32), .long p2, .long v3])) zq_251 zo_251 (by with_unfolding_all rfl) ?_
      replace hf := zf_b2e hf
      obtain ⟨v4, h5, hv, hf⟩ := hf
      refine zv_c zq_251 zo_251 rfl rfl rfl rfl rfl rfl (t_f_ColumnVault_isAhead _ _ _ _ _ _ _ hv) ?_
      replace hf := zf_ite hf
      obtain ⟨hc, hf⟩ | ⟨hc, hf⟩ := hf
      · refine zv_brT (off := 9) (tt := 47) (r := []) zq_251 zo_251 hc rfl rfl rfl ?_
        refine zv_pick (lv' := [(0, .ref p0), (1, .int p1), (2, .long p2), (4, .int p3)]) [0, 1, 2, 4] rfl rfl ?_
        exact t_f_Groups_put_47 _ _ _ _ _ _ _ hf
      · refine zv_brF (off := 9) (tt := 47) (r := []) zq_251 zo_251 hc rfl rfl rfl ?_
        refine zv_p (k := 2) (f' := (16, [(4, .int (p3 + (1 : Int32))), (0, .ref p0), (1, .int p1), (2, .long p2)], [])) zq_251 zo_251 (by with_unfolding_all rfl) ?_
        refine zv_pick (lv' := [(0, .ref p0), (1, .int p1), (2, .long p2), (4, .int (p3 + (1 : Int32)))]) [0, 1, 2, 4] rfl rfl ?_
        exact ih _ _ _ _ _ _ _ hf
set_option maxHeartbeats 1000000 in
def f_Groups_put (p0 : Nat) (p1 : Int32) (h : zx_H) : Option (Unit × zx_H) :=
  zf_b (zf_A 5 0 p0 h) fun v1 =>
  zf_b (zf_I 5 3 p0 h) fun v2 =>
  zf_b (zf_is 10 v1 h) fun _ =>
  zf_b2 (f_Sheet_keyAt v1 v2 p1 h) fun v3 h4 =>
  f_Groups_put_16 zF p0 p1 v3 (0 : Int32) h4
set_option maxHeartbeats 4000000 in
set_option maxRecDepth 400000 in
theorem t_f_Groups_put {sc : (Nat × (Nat → Int32)) × Bool} {d : Nat} (p0 : Nat) (p1 : Int32) (h : zx_H) (r : Unit) (h' : zx_H) (hf : f_Groups_put p0 p1 h = some (r, h')) : zx_T sc (d + 1) 251 (0, [(0, .ref p0), (1, .int p1)], []) h (zf_oV r) h' := by
  unfold f_Groups_put at hf
  refine zv_p (k := 1) (f' := (1, [(0, .ref p0), (1, .int p1)], [.ref p0])) zq_251 zo_251 (by with_unfolding_all rfl) ?_
  replace hf := zf_be hf
  obtain ⟨v1, hv, hf⟩ := hf
  refine zv_gf zq_251 zo_251 rfl rfl rfl (zf_Ae hv) ?_
  refine zv_p (k := 1) (f' := (5, [(0, .ref p0), (1, .int p1)], [.ref p0, .ref v1])) zq_251 zo_251 (by with_unfolding_all rfl) ?_
  replace hf := zf_be hf
  obtain ⟨v2, hv, hf⟩ := hf
  refine zv_gf zq_251 zo_251 rfl rfl rfl (zf_Ie hv) ?_
  refine zv_p (k := 1) (f' := (9, [(0, .ref p0), (1, .int p1)], [.int p1, .int v2, .ref v1])) zq_251 zo_251 (by with_unfolding_all rfl) ?_
  replace hf := zf_be hf
  obtain ⟨_, ho, hf⟩ := hf
  replace hf := zf_b2e hf
  obtain ⟨v3, h4, hv, hf⟩ := hf
  refine zv_c zq_251 zo_251 rfl rfl rfl rfl rfl (zv_cv rfl rfl rfl (zf_ise ho) rfl) (t_f_Sheet_keyAt _ _ _ _ _ _ hv) ?_
  refine zv_p (k := 3) (f' := (16, [(4, .int (0 : Int32)), (2, .long v3), (0, .ref p0), (1, .int p1)], [])) zq_251 zo_251 (by with_unfolding_all rfl) ?_
  refine zv_pick (lv' := [(0, .ref p0), (1, .int p1), (2, .long v3), (4, .int (0 : Int32))]) [0, 1, 2, 4] rfl rfl ?_
  exact t_f_Groups_put_16 zF _ _ _ _ _ _ _ hf
/-! ColumnVault$Groups.make (LColumnVault$Sheet;I)V -/
noncomputable def zI_250 : zd_T := [[(0, .aload_n 0, 1), (1, .getfield 12, 3), (4, .aload_n 1, 1), (5, .invokevirtual 32, 3), (8, .aload_n 0, 1), (9, .iload_n 2, 1), (10, .putfield 25, 3), (13, .aload_n 0, 1), (14, .iconst 0, 1), (15, .putfield 29, 3), (18, .iconst 0, 1), (19, .istore_n 3, 1), (20, .iload_n 3, 1), (21, .aload_n 0, 1), (22, .getfield 12, 3), (25, .getfield 36, 3), (28, .if_icmp .ge 28, 3), (31, .aload_n 0, 1)], [(32, .getfield 12, 3), (35, .getfield 39, 3), (38, .iload_n 3, 1), (39, .invokestatic 43, 3), (42, .ifCond .eq 8, 3), (45, .aload_n 0, 1), (46, .iload_n 3, 1), (47, .invokevirtual 47, 3), (50, .iinc 3 1, 3), (53, .goto (-33), 3), (56, .return_, 1)]]
theorem zo_250 : zd_of 250 = some zI_250 := rfl
set_option maxRecDepth 100000 in
theorem zq_250 : zt_m[250]? = some (⟨"ColumnVault$Groups", "make", "(LColumnVault$Sheet;I)V"⟩, prog_5_method_2_code, 4, none, [], 5, 2, 0, 0, 0, 0) := rfl
set_option maxHeartbeats 1000000 in
def f_Groups_make_20 : Nat → Nat → Int32 → zx_H → Option (Unit × zx_H)
  | 0, _, _, _ => none
  | n + 1, p0, p1, h =>
    zf_b (zf_A 5 0 p0 h) fun v1 =>
    zf_b (zf_I 10 4 v1 h) fun v2 =>
    if v2 ≤ p1 then
      some ((), h)
    else
      zf_b (zf_A 5 0 p0 h) fun v3 =>
      zf_b (zf_J 10 5 v3 h) fun v4 =>
      zf_b2 (f_ColumnVault_holdsRow v4 p1 h) fun v5 h6 =>
      if v5 = 0 then
        (f_Groups_make_20 n) p0 (p1 + (1 : Int32)) h6
      else
        zf_b (zf_is 5 p0 h6) fun _ =>
        zf_b2 (f_Groups_put p0 p1 h6) fun _ h8 =>
        (f_Groups_make_20 n) p0 (p1 + (1 : Int32)) h8
set_option maxHeartbeats 4000000 in
set_option maxRecDepth 400000 in
theorem t_f_Groups_make_20 {sc : (Nat × (Nat → Int32)) × Bool} {d : Nat} : ∀ (n : Nat) (p0 : Nat) (p1 : Int32) (h : zx_H) (r : Unit) (h' : zx_H), f_Groups_make_20 n p0 p1 h = some (r, h') → zx_T sc (d + 2) 250 (20, [(0, .ref p0), (3, .int p1)], []) h (zf_oV r) h' := by
  intro n
  induction n with
  | zero => intro p0 p1 h r h' hf; cases hf
  | succ n ih =>
    intro p0 p1 h r h' hf
    unfold f_Groups_make_20 at hf
    refine zv_p (k := 2) (f' := (22, [(0, .ref p0), (3, .int p1)], [.ref p0, .int p1])) zq_250 zo_250 (by with_unfolding_all rfl) ?_
    replace hf := zf_be hf
    obtain ⟨v1, hv, hf⟩ := hf
    refine zv_gf zq_250 zo_250 rfl rfl rfl (zf_Ae hv) ?_
    replace hf := zf_be hf
    obtain ⟨v2, hv, hf⟩ := hf
    refine zv_gf zq_250 zo_250 rfl rfl rfl (zf_Ie hv) ?_
    replace hf := zf_ite hf
    obtain ⟨hc, hf⟩ | ⟨hc, hf⟩ := hf
    · refine zv_brT (off := 28) (tt := 56) (r := []) zq_250 zo_250 hc rfl rfl rfl ?_
      cases hf
      exact zv_r zq_250 zo_250 rfl rfl rfl rfl rfl
    · refine zv_brF (off := 28) (tt := 56) (r := []) zq_250 zo_250 hc rfl rfl rfl ?_
      refine zv_p (k := 1) (f' := (32, [(0, .ref p0), (3, .int p1)], [.ref p0])) zq_250 zo_250 (by with_unfolding_all rfl) ?_
      replace hf := zf_be hf
      obtain ⟨v3, hv, hf⟩ := hf
      refine zv_gf zq_250 zo_250 rfl rfl rfl (zf_Ae hv) ?_
      replace hf := zf_be hf
      obtain ⟨v4, hv, hf⟩ := hf
      refine zv_gf zq_250 zo_250 rfl rfl rfl (zf_Je hv) ?_
      refine zv_p (k := 1) (f' := (39, [(0, .ref p0), (3, .int p1)], [.int p1, .long v4])) zq_250 zo_250 (by with_unfolding_all rfl) ?_
      replace hf := zf_b2e hf
      obtain ⟨v5, h6, hv, hf⟩ := hf
      refine zv_c zq_250 zo_250 rfl rfl rfl rfl rfl rfl (t_f_ColumnVault_holdsRow _ _ _ _ _ hv) ?_
      replace hf := zf_ite hf
      obtain ⟨hc, hf⟩ | ⟨hc, hf⟩ := hf
      · refine zv_brT (off := 8) (tt := 50) (r := []) zq_250 zo_250 hc rfl rfl rfl ?_
        refine zv_p (k := 2) (f' := (20, [(3, .int (p1 + (1 : Int32))), (0, .ref p0)], [])) zq_250 zo_250 (by with_unfolding_all rfl) ?_
        refine zv_pick (lv' := [(0, .ref p0), (3, .int (p1 + (1 : Int32)))]) [0, 3] rfl rfl ?_
        exact ih _ _ _ _ _ hf
      · refine zv_brF (off := 8) (tt := 50) (r := []) zq_250 zo_250 hc rfl rfl rfl ?_
        refine zv_p (k := 2) (f' := (47, [(0, .ref p0), (3, .int p1)], [.int p1, .ref p0])) zq_250 zo_250 (by with_unfolding_all rfl) ?_
        replace hf := zf_be hf
        obtain ⟨_, ho, hf⟩ := hf
        replace hf := zf_b2e hf
        obtain ⟨v7, h8, hv, hf⟩ := hf
        refine zv_c zq_250 zo_250 rfl rfl rfl rfl rfl (zv_cv rfl rfl rfl (zf_ise ho) rfl) (t_f_Groups_put _ _ _ _ _ hv) ?_
        refine zv_p (k := 2) (f' := (20, [(3, .int (p1 + (1 : Int32))), (0, .ref p0)], [])) zq_250 zo_250 (by with_unfolding_all rfl) ?_
        refine zv_pick (lv' := [(0, .ref p0), (3, .int (p1 + (1 : Int32)))]) [0, 3] rfl rfl ?_
        exact ih _ _ _ _ _ hf
set_option maxHeartbeats 1000000 in
def f_Groups_make (p0 : Nat) (p1 : Nat) (p2 : Int32) (h : zx_H) : Option (Unit × zx_H) :=
  zf_b (zf_A 5 0 p0 h) fun v1 =>
  zf_b (zf_is 10 v1 h) fun _ =>
  zf_b2 (f_Sheet_copyFrom v1 p1 h) fun _ h3 =>
  zf_b (zf_put 5 3 p0 (.int p2) h3) fun h4 =>
  zf_b (zf_put 5 4 p0 (.int (0 : Int32)) h4) fun h5 =>
  f_Groups_make_20 zF p0 (0 : Int32) h5
set_option maxHeartbeats 4000000 in
set_option maxRecDepth 400000 in
theorem t_f_Groups_make {sc : (Nat × (Nat → Int32)) × Bool} {d : Nat} (p0 : Nat) (p1 : Nat) (p2 : Int32) (h : zx_H) (r : Unit) (h' : zx_H) (hf : f_Groups_make p0 p1 p2 h = some (r, h')) : zx_T sc (d + 2) 250 (0, [(0, .ref p0), (1, .ref p1), (2, .int p2)], []) h (zf_oV r) h' := by
  unfold f_Groups_make at hf
  refine zv_p (k := 1) (f' := (1, [(0, .ref p0), (1, .ref p1), (2, .int p2)], [.ref p0])) zq_250 zo_250 (by with_unfolding_all rfl) ?_
  replace hf := zf_be hf
  obtain ⟨v1, hv, hf⟩ := hf
  refine zv_gf zq_250 zo_250 rfl rfl rfl (zf_Ae hv) ?_
  refine zv_p (k := 1) (f' := (5, [(0, .ref p0), (1, .ref p1), (2, .int p2)], [.ref p1, .ref v1])) zq_250 zo_250 (by with_unfolding_all rfl) ?_
  replace hf := zf_be hf
  obtain ⟨_, ho, hf⟩ := hf
  replace hf := zf_b2e hf
  obtain ⟨v2, h3, hv, hf⟩ := hf
  refine zv_c zq_250 zo_250 rfl rfl rfl rfl rfl (zv_cv rfl rfl rfl (zf_ise ho) rfl) (t_f_Sheet_copyFrom _ _ _ _ _ hv) ?_
  refine zv_p (k := 2) (f' := (10, [(0, .ref p0), (1, .ref p1), (2, .int p2)], [.int p2, .ref p0])) zq_250 zo_250 (by with_unfolding_all rfl) ?_
  replace hf := zf_be hf
  obtain ⟨h4, hv, hf⟩ := hf
  refine zv_pf zq_250 zo_250 rfl rfl rfl rfl hv ?_
  refine zv_p (k := 2) (f' := (15, [(0, .ref p0), (1, .ref p1), (2, .int p2)], [.int (0 : Int32), .ref p0])) zq_250 zo_250 (by with_unfolding_all rfl) ?_
  replace hf := zf_be hf
  obtain ⟨h5, hv, hf⟩ := hf
  refine zv_pf zq_250 zo_250 rfl rfl rfl rfl hv ?_
  refine zv_p (k := 2) (f' := (20, [(3, .int (0 : Int32)), (0, .ref p0), (1, .ref p1), (2, .int p2)], [])) zq_250 zo_250 (by with_unfolding_all rfl) ?_
  refine zv_pick (lv' := [(0, .ref p0), (3, .int (0 : Int32))]) [0, 3] rfl rfl ?_
  exact t_f_Groups_make_20 zF _ _ _ _ _ hf
