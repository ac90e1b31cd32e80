set_option maxHeartbeats 1000000 in
def f_Checks_rangeFailures_36 : Nat → Nat → Nat → Int32 → Int32 → zx_H → Option (Int32 × zx_H)
  | 0, _, _, _, _, _ => none
  | n + 1, p0, p1, p2, p3, h =>
    zf_b (zf_A 2 1 p0 h) fun v1 =>
    zf_b (zf_I 5 4 v1 h) fun v2 =>
    if v2 ≤ p3 then
      f_Checks_rangeFailures_86 zF p0 p1 p2 (0 : Int32) (0 : Int32) h
    else
      if (40 : Int32) ≤ p3 then
        f_Checks_rangeFailures_86 zF p0 p1 p2 (0 : Int32) (0 : Int32) h
      else
        zf_b (zf_A 2 2 p0 h) fun v3 =>
        zf_b (zf_A 2 1 p0 h) fun v4 =>
        zf_b (zf_is 5 v4 h) fun _ =>
        zf_b2 (f_Groups_keyOfGroup v4 p3 h) fun v5 h6 =>
        zf_b (zf_is 10 p1 h6) fun _ =>
        zf_b2 (f_Sheet_rowsFromTo p1 p2 (-8999999999 : Int64) v5 h6) fun v7 h8 =>
        zf_b (zf_stJ v3 p3 v7 h8) fun h9 =>
        (f_Checks_rangeFailures_36 n) p0 p1 p2 (p3 + (1 : Int32)) h9
set_option maxHeartbeats 4000000 in
set_option maxRecDepth 400000 in
theorem t_f_Checks_rangeFailures_36 {sc : (Nat × (Nat → Int32)) × Bool} {d : Nat} : ∀ (n : Nat) (p0 : Nat) (p1 : Nat) (p2 : Int32) (p3 : Int32) (h : zx_H) (r : Int32) (h' : zx_H), f_Checks_rangeFailures_36 n p0 p1 p2 p3 h = some (r, h') → zx_T sc (d + 3) 254 (36, [(0, .ref p0), (1, .ref p1), (2, .int p2), (3, .int p3)], []) h (zf_oI r) h' := by
  intro n
  induction n with
  | zero => intro p0 p1 p2 p3 h r h' hf; cases hf
  | succ n ih =>
    intro p0 p1 p2 p3 h r h' hf
    unfold f_Checks_rangeFailures_36 at hf
    refine zv_p (k := 2) (f' := (38, [(0, .ref p0), (1, .ref p1), (2, .int p2), (3, .int p3)], [.ref p0, .int p3])) zq_254 zo_254 (by with_unfolding_all rfl) ?_
    replace hf := zf_be hf
    obtain ⟨v1, hv, hf⟩ := hf
    refine zv_gf zq_254 zo_254 rfl rfl rfl (zf_Ae hv) ?_
    replace hf := zf_be hf
    obtain ⟨v2, hv, hf⟩ := hf
    refine zv_gf zq_254 zo_254 rfl rfl rfl (zf_Ie hv) ?_
    replace hf := zf_ite hf
    obtain ⟨hc, hf⟩ | ⟨hc, hf⟩ := hf
    · refine zv_brT (off := 37) (tt := 81) (r := []) zq_254 zo_254 hc rfl rfl rfl ?_
      refine zv_p (k := 4) (f' := (86, [(4, .int (0 : Int32)), (3, .int (0 : Int32)), (0, .ref p0), (1, .ref p1), (2, .int p2)], [])) zq_254 zo_254 (by with_unfolding_all rfl) ?_
      refine zv_pick (lv' := [(0, .ref p0), (1, .ref p1), (2, .int p2), (3, .int (0 : Int32)), (4, .int (0 : Int32))]) [0, 1, 2, 3, 4] rfl rfl ?_
      exact t_f_Checks_rangeFailures_86 zF _ _ _ _ _ _ _ _ hf
    · refine zv_brF (off := 37) (tt := 81) (r := []) zq_254 zo_254 hc rfl rfl rfl ?_
      refine zv_p (k := 2) (f' := (50, [(0, .ref p0), (1, .ref p1), (2, .int p2), (3, .int p3)], [.int (40 : Int32), .int p3])) zq_254 zo_254 (by with_unfolding_all rfl) ?_
      replace hf := zf_ite hf
      obtain ⟨hc, hf⟩ | ⟨hc, hf⟩ := hf
      · refine zv_brT (off := 31) (tt := 81) (r := []) zq_254 zo_254 hc rfl rfl rfl ?_
        refine zv_p (k := 4) (f' := (86, [(4, .int (0 : Int32)), (3, .int (0 : Int32)), (0, .ref p0), (1, .ref p1), (2, .int p2)], [])) zq_254 zo_254 (by with_unfolding_all rfl) ?_
        refine zv_pick (lv' := [(0, .ref p0), (1, .ref p1), (2, .int p2), (3, .int (0 : Int32)), (4, .int (0 : Int32))]) [0, 1, 2, 3, 4] rfl rfl ?_
        exact t_f_Checks_rangeFailures_86 zF _ _ _ _ _ _ _ _ hf
      · refine zv_brF (off := 31) (tt := 81) (r := []) zq_254 zo_254 hc rfl rfl rfl ?_
        refine zv_p (k := 1) (f' := (54, [(0, .ref p0), (1, .ref p1), (2, .int p2), (3, .int p3)], [.ref p0])) zq_254 zo_254 (by with_unfolding_all rfl) ?_
        replace hf := zf_be hf
        obtain ⟨v3, hv, hf⟩ := hf
        refine zv_gf zq_254 zo_254 rfl rfl rfl (zf_Ae hv) ?_
        refine zv_p (k := 3) (f' := (60, [(0, .ref p0), (1, .ref p1), (2, .int p2), (3, .int p3)], [.int p2, .ref p1, .int p3, .ref v3])) zq_254 zo_254 (by with_unfolding_all rfl) ?_
        refine zv_lng zq_254 zo_254 rfl rfl ?_
        refine zv_p (k := 1) (f' := (64, [(0, .ref p0), (1, .ref p1), (2, .int p2), (3, .int p3)], [.ref p0, .long (-8999999999 : Int64), .int p2, .ref p1, .int p3, .ref v3])) zq_254 zo_254 (by with_unfolding_all rfl) ?_
        replace hf := zf_be hf
        obtain ⟨v4, hv, hf⟩ := hf
        refine zv_gf zq_254 zo_254 rfl rfl rfl (zf_Ae hv) ?_
        refine zv_p (k := 1) (f' := (68, [(0, .ref p0), (1, .ref p1), (2, .int p2), (3, .int p3)], [.int p3, .ref v4, .long (-8999999999 : Int64), .int p2, .ref p1, .int p3, .ref v3])) zq_254 zo_254 (by with_unfolding_all rfl) ?_
        replace hf := zf_be hf
        obtain ⟨_, ho, hf⟩ := hf
        replace hf := zf_b2e hf
        obtain ⟨v5, h6, hv, hf⟩ := hf
        refine zv_c zq_254 zo_254 rfl rfl rfl rfl rfl (zv_cv rfl rfl rfl (zf_ise ho) rfl) (t_f_Groups_keyOfGroup _ _ _ _ _ hv) ?_
        replace hf := zf_be hf
        obtain ⟨_, ho, hf⟩ := hf
        replace hf := zf_b2e hf
        obtain ⟨v7, h8, hv, hf⟩ := hf
        refine zv_c zq_254 zo_254 rfl rfl rfl rfl rfl (zv_cv rfl rfl rfl (zf_ise ho) rfl) (t_f_Sheet_rowsFromTo _ _ _ _ _ _ _ hv) ?_
        replace hf := zf_be hf
        obtain ⟨h9, hv, hf⟩ := hf
        refine zv_stJ zq_254 zo_254 rfl hv ?_
        refine zv_p (k := 2) (f' := (36, [(3, .int (p3 + (1 : Int32))), (0, .ref p0), (1, .ref p1), (2, .int p2)], [])) zq_254 zo_254 (by with_unfolding_all rfl) ?_
        refine zv_pick (lv' := [(0, .ref p0), (1, .ref p1), (2, .int p2), (3, .int (p3 + (1 : Int32)))]) [0, 1, 2, 3] rfl rfl ?_
        exact ih _ _ _ _ _ _ _ hf
set_option maxHeartbeats 1000000 in
def f_Checks_rangeFailures (p0 : Nat) (p1 : Nat) (p2 : Int32) (h : zx_H) : Option (Int32 × zx_H) :=
  zf_b (zf_A 2 0 p0 h) fun v1 =>
  zf_b (zf_is 10 v1 h) fun _ =>
  zf_b2 (f_Sheet_copyFrom v1 p1 h) fun _ h3 =>
  zf_b (zf_A 2 0 p0 h3) fun v4 =>
  zf_b (zf_A 2 0 p0 h3) fun v5 =>
  zf_b (zf_is 10 v5 h3) fun _ =>
  zf_b2 (f_Sheet_allRows v5 h3) fun v6 h7 =>
  zf_b (zf_put 10 5 v4 (.long v6) h7) fun h8 =>
  zf_b (zf_A 2 1 p0 h8) fun v9 =>
  zf_b (zf_A 2 0 p0 h8) fun v10 =>
  zf_b (zf_is 5 v9 h8) fun _ =>
  zf_b2 (f_Groups_make v9 v10 p2 h8) fun _ h12 =>
  f_Checks_rangeFailures_36 zF p0 p1 p2 (0 : Int32) h12
set_option maxHeartbeats 4000000 in
set_option maxRecDepth 400000 in
theorem t_f_Checks_rangeFailures {sc : (Nat × (Nat → Int32)) × Bool} {d : Nat} (p0 : Nat) (p1 : Nat) (p2 : Int32) (h : zx_H) (r : Int32) (h' : zx_H) (hf : f_Checks_rangeFailures p0 p1 p2 h = some (r, h')) : zx_T sc (d + 3) 254 (0, [(0, .ref p0), (1, .ref p1), (2, .int p2)], []) h (zf_oI r) h' := by
  unfold f_Checks_rangeFailures at hf
  refine zv_p (k := 1) (f' := (1, [(0, .ref p0), (1, .ref p1), (2, .int p2)], [.ref p0])) zq_254 zo_254 (by with_unfolding_all rfl) ?_
  replace hf := zf_be hf
  obtain ⟨v1, hv, hf⟩ := hf
  refine zv_gf zq_254 zo_254 rfl rfl rfl (zf_Ae hv) ?_
  refine zv_p (k := 1) (f' := (5, [(0, .ref p0), (1, .ref p1), (2, .int p2)], [.ref p1, .ref v1])) zq_254 zo_254 (by with_unfolding_all rfl) ?_
  replace hf := zf_be hf
  obtain ⟨_, ho, hf⟩ := hf
  replace hf := zf_b2e hf
  obtain ⟨v2, h3, hv, hf⟩ := hf
  refine zv_c zq_254 zo_254 rfl rfl rfl rfl rfl (zv_cv rfl rfl rfl (zf_ise ho) rfl) (t_f_Sheet_copyFrom _ _ _ _ _ hv) ?_
  refine zv_p (k := 1) (f' := (9, [(0, .ref p0), (1, .ref p1), (2, .int p2)], [.ref p0])) zq_254 zo_254 (by with_unfolding_all rfl) ?_
  replace hf := zf_be hf
  obtain ⟨v4, hv, hf⟩ := hf
  refine zv_gf zq_254 zo_254 rfl rfl rfl (zf_Ae hv) ?_
  refine zv_p (k := 1) (f' := (13, [(0, .ref p0), (1, .ref p1), (2, .int p2)], [.ref p0, .ref v4])) zq_254 zo_254 (by with_unfolding_all rfl) ?_
  replace hf := zf_be hf
  obtain ⟨v5, hv, hf⟩ := hf
  refine zv_gf zq_254 zo_254 rfl rfl rfl (zf_Ae hv) ?_
  replace hf := zf_be hf
  obtain ⟨_, ho, hf⟩ := hf
  replace hf := zf_b2e hf
  obtain ⟨v6, h7, hv, hf⟩ := hf
  refine zv_c zq_254 zo_254 rfl rfl rfl rfl rfl (zv_cv rfl rfl rfl (zf_ise ho) rfl) (t_f_Sheet_allRows _ _ _ _ hv) ?_
  replace hf := zf_be hf
  obtain ⟨h8, hv, hf⟩ := hf
  refine zv_pf zq_254 zo_254 rfl rfl rfl rfl hv ?_
  refine zv_p (k := 1) (f' := (23, [(0, .ref p0), (1, .ref p1), (2, .int p2)], [.ref p0])) zq_254 zo_254 (by with_unfolding_all rfl) ?_
  replace hf := zf_be hf
  obtain ⟨v9, hv, hf⟩ := hf
  refine zv_gf zq_254 zo_254 rfl rfl rfl (zf_Ae hv) ?_
  refine zv_p (k := 1) (f' := (27, [(0, .ref p0), (1, .ref p1), (2, .int p2)], [.ref p0, .ref v9])) zq_254 zo_254 (by with_unfolding_all rfl) ?_
  replace hf := zf_be hf
  obtain ⟨v10, hv, hf⟩ := hf
  refine zv_gf zq_254 zo_254 rfl rfl rfl (zf_Ae hv) ?_
  refine zv_p (k := 1) (f' := (31, [(0, .ref p0), (1, .ref p1), (2, .int p2)], [.int p2, .ref v10, .ref v9])) zq_254 zo_254 (by with_unfolding_all rfl) ?_
  replace hf := zf_be hf
  obtain ⟨_, ho, hf⟩ := hf
  replace hf := zf_b2e hf
  obtain ⟨v11, h12, hv, hf⟩ := hf
  refine zv_c zq_254 zo_254 rfl rfl rfl rfl rfl (zv_cv rfl rfl rfl (zf_ise ho) rfl) (t_f_Groups_make _ _ _ _ _ _ hv) ?_
  refine zv_p (k := 2) (f' := (36, [(3, .int (0 : Int32)), (0, .ref p0), (1, .ref p1), (2, .int p2)], [])) zq_254 zo_254 (by with_unfolding_all rfl) ?_
  refine zv_pick (lv' := [(0, .ref p0), (1, .ref p1), (2, .int p2), (3, .int (0 : Int32))]) [0, 1, 2, 3] rfl rfl ?_
  exact t_f_Checks_rangeFailures_36 zF _ _ _ _ _ _ _ hf
/-! ColumnVault$Checks.failuresOf (LColumnVault$Sheet;)I -/
noncomputable def zI_246 : zd_T := [[(0, .iconst 0, 1), (1, .istore_n 2, 1), (2, .iconst 0, 1), (3, .istore_n 3, 1), (4, .iload_n 3, 1), (5, .aload_n 1, 1), (6, .getfield 29, 3), (9, .if_icmp .ge 63, 3), (12, .iconst 0, 1), (13, .istore 4, 2), (15, .iload 4, 2), (17, .aload_n 1, 1), (18, .getfield 29, 3), (21, .if_icmp .ge 29, 3), (24, .iload 4, 2), (26, .iload_n 3, 1), (27, .if_icmp .eq 17, 3), (30, .aload_n 0, 1), (31, .aload_n 1, 1)], [(32, .iload_n 3, 1), (33, .iload 4, 2), (35, .invokevirtual 33, 3), (38, .ifCond .ne 6, 3), (41, .iinc 2 1, 3), (44, .iinc 4 1, 3), (47, .goto (-32), 3), (50, .iload_n 2, 1), (51, .aload_n 0, 1), (52, .aload_n 1, 1), (53, .iload_n 3, 1), (54, .invokevirtual 37, 3), (57, .aload_n 0, 1), (58, .aload_n 1, 1), (59, .iload_n 3, 1), (60, .invokevirtual 41, 3), (63, .iadd, 1)], [(64, .iadd, 1), (65, .istore_n 2, 1), (66, .iinc 3 1, 3), (69, .goto (-65), 3), (72, .iload_n 2, 1), (73, .ireturn, 1)]]
theorem zo_246 : zd_of 246 = some zI_246 := rfl
set_option maxRecDepth 100000 in
theorem zq_246 : zt_m[246]? = some (⟨"ColumnVault$Checks", "failuresOf", "(LColumnVault$Sheet;)I"⟩, prog_2_method_2_code, 5, some (.int), [], 2, 1, 0, 0, 0, 0) := rfl
set_option maxHeartbeats 1000000 in
def f_Checks_failuresOf_15 (k4 : Nat → Nat → Int32 → Int32 → zx_H → Option (Int32 × zx_H)) : Nat → Nat → Nat → Int32 → Int32 → Int32 → zx_H → Option (Int32 × zx_H)
  | 0, _, _, _, _, _, _ => none
  | n + 1, p0, p1, p2, p3, p4, h =>
    zf_b (zf_I 10 3 p1 h) fun v1 =>
    if v1 ≤ p4 then
      zf_b (zf_is 2 p0 h) fun _ =>
      zf_b2 (f_Checks_groupFailures p0 p1 p3 h) fun v2 h3 =>
      zf_b (zf_is 2 p0 h3) fun _ =>
      zf_b2 (f_Checks_rangeFailures p0 p1 p3 h3) fun v4 h5 =>
      k4 p0 p1 (p2 + (v2 + v4)) (p3 + (1 : Int32)) h5
    else
      if p4 = p3 then
        (f_Checks_failuresOf_15 k4 n) p0 p1 p2 p3 (p4 + (1 : Int32)) h
      else
        zf_b (zf_is 2 p0 h) fun _ =>
        zf_b2 (f_Checks_isInBothOrders p0 p1 p3 p4 h) fun v6 h7 =>
        if ¬ v6 = 0 then
          (f_Checks_failuresOf_15 k4 n) p0 p1 p2 p3 (p4 + (1 : Int32)) h7
        else
          (f_Checks_failuresOf_15 k4 n) p0 p1 (p2 + (1 : Int32)) p3 (p4 + (1 : Int32)) h7
set_option maxHeartbeats 4000000 in
set_option maxRecDepth 400000 in
theorem t_f_Checks_failuresOf_15 {sc : (Nat × (Nat → Int32)) × Bool} {d : Nat} {k4 : Nat → Nat → Int32 → Int32 → zx_H → Option (Int32 × zx_H)} (hk4 : ∀ (a0 : Nat) (a1 : Nat) (a2 : Int32) (a3 : Int32) (h : zx_H) (r : Int32) (h' : zx_H), k4 a0 a1 a2 a3 h = some (r, h') → zx_T sc (d + 4) 246 (4, [(0, .ref a0), (1, .ref a1), (2, .int a2), (3, .int a3)], []) h (zf_oI r) h') : ∀ (n : Nat) (p0 : Nat) (p1 : Nat) (p2 : Int32) (p3 : Int32) (p4 : Int32) (h : zx_H) (r : Int32) (h' : zx_H), f_Checks_failuresOf_15 k4 n p0 p1 p2 p3 p4 h = some (r, h') → zx_T sc (d + 4) 246 (15, [(0, .ref p0), (1, .ref p1), (2, .int p2), (3, .int p3), (4, .int p4)], []) h (zf_oI r) h' := by
  intro n
  induction n with
  | zero => intro p0 p1 p2 p3 p4 h r h' hf; cases hf
  | succ n ih =>
    intro p0 p1 p2 p3 p4 h r h' hf
    unfold f_Checks_failuresOf_15 at hf
    refine zv_p (k := 2) (f' := (18, [(0, .ref p0), (1, .ref p1), (2, .int p2), (3, .int p3), (4, .int p4)], [.ref p1, .int p4])) zq_246 zo_246 (by with_unfolding_all rfl) ?_
    replace hf := zf_be hf
    obtain ⟨v1, hv, hf⟩ := hf
    refine zv_gf zq_246 zo_246 rfl rfl rfl (zf_Ie hv) ?_
    replace hf := zf_ite hf
    obtain ⟨hc, hf⟩ | ⟨hc, hf⟩ := hf
    · refine zv_brT (off := 29) (tt := 50) (r := []) zq_246 zo_246 hc rfl rfl rfl ?_
      refine zv_p (k := 4) (f' := (54, [(0, .ref p0), (1, .ref p1), (2, .int p2), (3, .int p3), (4, .int p4)], [.int p3, .ref p1, .ref p0, .int p2])) zq_246 zo_246 (by with_unfolding_all rfl) ?_
      replace hf := zf_be hf
      obtain ⟨_, ho, hf⟩ := hf
      replace hf := zf_b2e hf
      obtain ⟨v2, h3, hv, hf⟩ := hf
      refine zv_c zq_246 zo_246 rfl rfl rfl rfl rfl (zv_cv rfl rfl rfl (zf_ise ho) rfl) (t_f_Checks_groupFailures _ _ _ _ _ _ hv) ?_
      refine zv_p (k := 3) (f' := (60, [(0, .ref p0), (1, .ref p1), (2, .int p2), (3, .int p3), (4, .int p4)], [.int p3, .ref p1, .ref p0, .int v2, .int p2])) zq_246 zo_246 (by with_unfolding_all rfl) ?_
      replace hf := zf_be hf
      obtain ⟨_, ho, hf⟩ := hf
      replace hf := zf_b2e hf
      obtain ⟨v4, h5, hv, hf⟩ := hf
      refine zv_c zq_246 zo_246 rfl rfl rfl rfl rfl (zv_cv rfl rfl rfl (zf_ise ho) rfl) (t_f_Checks_rangeFailures _ _ _ _ _ _ hv) ?_
      refine zv_p (k := 5) (f' := (4, [(3, .int (p3 + (1 : Int32))), (2, .int (p2 + (v2 + v4))), (0, .ref p0), (1, .ref p1), (4, .int p4)], [])) zq_246 zo_246 (by with_unfolding_all rfl) ?_
      refine zv_pick (lv' := [(0, .ref p0), (1, .ref p1), (2, .int (p2 + (v2 + v4))), (3, .int (p3 + (1 : Int32)))]) [0, 1, 2, 3] rfl rfl ?_
      exact hk4 _ _ _ _ _ _ _ hf
    · refine zv_brF (off := 29) (tt := 50) (r := []) zq_246 zo_246 hc rfl rfl rfl ?_
      refine zv_p (k := 2) (f' := (27, [(0, .ref p0), (1, .ref p1), (2, .int p2), (3, .int p3), (4, .int p4)], [.int p3, .int p4])) zq_246 zo_246 (by with_unfolding_all rfl) ?_
      replace hf := zf_ite hf
      obtain ⟨hc, hf⟩ | ⟨hc, hf⟩ := hf
      · refine zv_brT (off := 17) (tt := 44) (r := []) zq_246 zo_246 hc rfl rfl rfl ?_
        refine zv_p (k := 2) (f' := (15, [(4, .int (p4 + (1 : Int32))), (0, .ref p0), (1, .ref p1), (2, .int p2), (3, .int p3)], [])) zq_246 zo_246 (by with_unfolding_all rfl) ?_
        refine zv_pick (lv' := [(0, .ref p0), (1, .ref p1), (2, .int p2), (3, .int p3), (4, .int (p4 + (1 : Int32)))]) [0, 1, 2, 3, 4] rfl rfl ?_
        exact ih _ _ _ _ _ _ _ _ hf
      · refine zv_brF (off := 17) (tt := 44) (r := []) zq_246 zo_246 hc rfl rfl rfl ?_
        refine zv_p (k := 4) (f' := (35, [(0, .ref p0), (1, .ref p1), (2, .int p2), (3, .int p3), (4, .int p4)], [.int p4, .int p3, .ref p1, .ref p0])) zq_246 zo_246 (by with_unfolding_all rfl) ?_
        replace hf := zf_be hf
        obtain ⟨_, ho, hf⟩ := hf
        replace hf := zf_b2e hf
        obtain ⟨v6, h7, hv, hf⟩ := hf
        refine zv_c zq_246 zo_246 rfl rfl rfl rfl rfl (zv_cv rfl rfl rfl (zf_ise ho) rfl) (t_f_Checks_isInBothOrders _ _ _ _ _ _ _ hv) ?_
        replace hf := zf_ite hf
        obtain ⟨hc, hf⟩ | ⟨hc, hf⟩ := hf
        · refine zv_brT (off := 6) (tt := 44) (r := []) zq_246 zo_246 hc rfl rfl rfl ?_
          refine zv_p (k := 2) (f' := (15, [(4, .int (p4 + (1 : Int32))), (0, .ref p0), (1, .ref p1), (2, .int p2), (3, .int p3)], [])) zq_246 zo_246 (by with_unfolding_all rfl) ?_
          refine zv_pick (lv' := [(0, .ref p0), (1, .ref p1), (2, .int p2), (3, .int p3), (4, .int (p4 + (1 : Int32)))]) [0, 1, 2, 3, 4] rfl rfl ?_
          exact ih _ _ _ _ _ _ _ _ hf
        · refine zv_brF (off := 6) (tt := 44) (r := []) zq_246 zo_246 hc rfl rfl rfl ?_
          refine zv_p (k := 3) (f' := (15, [(4, .int (p4 + (1 : Int32))), (2, .int (p2 + (1 : Int32))), (0, .ref p0), (1, .ref p1), (3, .int p3)], [])) zq_246 zo_246 (by with_unfolding_all rfl) ?_
          refine zv_pick (lv' := [(0, .ref p0), (1, .ref p1), (2, .int (p2 + (1 : Int32))), (3, .int p3), (4, .int (p4 + (1 : Int32)))]) [0, 1, 2, 3, 4] rfl rfl ?_
          exact ih _ _ _ _ _ _ _ _ hf
set_option maxHeartbeats 1000000 in
def f_Checks_failuresOf_4 : Nat → Nat → Nat → Int32 → Int32 → zx_H → Option (Int32 × zx_H)
  | 0, _, _, _, _, _ => none
  | n + 1, p0, p1, p2, p3, h =>
    zf_b (zf_I 10 3 p1 h) fun v1 =>
    if v1 ≤ p3 then
      some (p2, h)
    else
      f_Checks_failuresOf_15 (f_Checks_failuresOf_4 n) zF p0 p1 p2 p3 (0 : Int32) h
set_option maxHeartbeats 4000000 in
set_option maxRecDepth 400000 in
theorem t_f_Checks_failuresOf_4 {sc : (Nat × (Nat → Int32)) × Bool} {d : Nat} : ∀ (n : Nat) (p0 : Nat) (p1 : Nat) (p2 : Int32) (p3 : Int32) (h : zx_H) (r : Int32) (h' : zx_H), f_Checks_failuresOf_4 n p0 p1 p2 p3 h = some (r, h') → zx_T sc (d + 4) 246 (4, [(0, .ref p0), (1, .ref p1), (2, .int p2), (3, .int p3)], []) h (zf_oI r) h' := by
  intro n
  induction n with
  | zero => intro p0 p1 p2 p3 h r h' hf; cases hf
  | succ n ih =>
    intro p0 p1 p2 p3 h r h' hf
    unfold f_Checks_failuresOf_4 at hf
    refine zv_p (k := 2) (f' := (6, [(0, .ref p0), (1, .ref p1), (2, .int p2), (3, .int p3)], [.ref p1, .int p3])) zq_246 zo_246 (by with_unfolding_all rfl) ?_
    replace hf := zf_be hf
    obtain ⟨v1, hv, hf⟩ := hf
    refine zv_gf zq_246 zo_246 rfl rfl rfl (zf_Ie hv) ?_
    replace hf := zf_ite hf
    obtain ⟨hc, hf⟩ | ⟨hc, hf⟩ := hf
    · refine zv_brT (off := 63) (tt := 72) (r := []) zq_246 zo_246 hc rfl rfl rfl ?_
      refine zv_p (k := 1) (f' := (73, [(0, .ref p0), (1, .ref p1), (2, .int p2), (3, .int p3)], [.int p2])) zq_246 zo_246 (by with_unfolding_all rfl) ?_
      cases hf
      exact zv_rn zq_246 zo_246 rfl rfl
    · refine zv_brF (off := 63) (tt := 72) (r := []) zq_246 zo_246 hc rfl rfl rfl ?_
      refine zv_p (k := 2) (f' := (15, [(4, .int (0 : Int32)), (0, .ref p0), (1, .ref p1), (2, .int p2), (3, .int p3)], [])) zq_246 zo_246 (by with_unfolding_all rfl) ?_
      refine zv_pick (lv' := [(0, .ref p0), (1, .ref p1), (2, .int p2), (3, .int p3), (4, .int (0 : Int32))]) [0, 1, 2, 3, 4] rfl rfl ?_
      exact t_f_Checks_failuresOf_15 ih zF _ _ _ _ _ _ _ _ hf
set_option maxHeartbeats 1000000 in
def f_Checks_failuresOf (p0 : Nat) (p1 : Nat) (h : zx_H) : Option (Int32 × zx_H) :=
  f_Checks_failuresOf_4 zF p0 p1 (0 : Int32) (0 : Int32) h
set_option maxHeartbeats 4000000 in
set_option maxRecDepth 400000 in
theorem t_f_Checks_failuresOf {sc : (Nat × (Nat → Int32)) × Bool} {d : Nat} (p0 : Nat) (p1 : Nat) (h : zx_H) (r : Int32) (h' : zx_H) (hf : f_Checks_failuresOf p0 p1 h = some (r, h')) : zx_T sc (d + 4) 246 (0, [(0, .ref p0), (1, .ref p1)], []) h (zf_oI r) h' := by
  unfold f_Checks_failuresOf at hf
  refine zv_p (k := 4) (f' := (4, [(3, .int (0 : Int32)), (2, .int (0 : Int32)), (0, .ref p0), (1, .ref p1)], [])) zq_246 zo_246 (by with_unfolding_all rfl) ?_
  refine zv_pick (lv' := [(0, .ref p0), (1, .ref p1), (2, .int (0 : Int32)), (3, .int (0 : Int32))]) [0, 1, 2, 3] rfl rfl ?_
  exact t_f_Checks_failuresOf_4 zF _ _ _ _ _ _ _ hf
/-! ColumnVault.errors (I)I -/
noncomputable def zI_245 : zd_T := [[(0, .aload_n 0, 1), (1, .getfield 49, 3), (4, .aload_n 0, 1), (5, .iload_n 1, 1), (6, .invokevirtual 53, 3), (9, .invokevirtual 350, 3), (12, .ireturn, 1)]]
theorem zo_245 : zd_of 245 = some zI_245 := rfl
set_option maxRecDepth 100000 in
theorem zq_245 : zt_m[245]? = some (⟨"ColumnVault", "errors", "(I)I"⟩, prog_1_method_38_code, 2, some (.int), [], 12, 1, 0, 0, 0, 0) := rfl
set_option maxHeartbeats 1000000 in
def f_ColumnVault_errors (p0 : Nat) (p1 : Int32) (h : zx_H) : Option ((Int32 ⊕ Nat) × zx_H) :=
  zf_b (zf_A 12 5 p0 h) fun v1 =>
  zf_b (zf_is 12 p0 h) fun _ =>
  zf_b3 (f_ColumnVault_sheetOf p0 p1 h) fun v2 h3 =>
  zf_b (zf_is 2 v1 h3) fun _ =>
  zf_b2 (f_Checks_failuresOf v1 v2 h3) fun v5 h6 =>
  some (.inl v5, h6)
set_option maxHeartbeats 4000000 in
set_option maxRecDepth 400000 in
theorem t_f_ColumnVault_errors {sc : (Nat × (Nat → Int32)) × Bool} {d : Nat} (p0 : Nat) (p1 : Int32) (h : zx_H) (r : (Int32 ⊕ Nat)) (h' : zx_H) (hf : f_ColumnVault_errors p0 p1 h = some (r, h')) : zx_T sc (d + 5) 245 (0, [(0, .ref p0), (1, .int p1)], []) h (zf_oIx r) h' := by
  unfold f_ColumnVault_errors at hf
  refine zv_p (k := 1) (f' := (1, [(0, .ref p0), (1, .int p1)], [.ref p0])) zq_245 zo_245 (by with_unfolding_all rfl) ?_
  replace hf := zf_be hf
  obtain ⟨v1, hv, hf⟩ := hf
  refine zv_gf zq_245 zo_245 rfl rfl rfl (zf_Ae hv) ?_
  refine zv_p (k := 2) (f' := (6, [(0, .ref p0), (1, .int p1)], [.int p1, .ref p0, .ref v1])) zq_245 zo_245 (by with_unfolding_all rfl) ?_
  replace hf := zf_be hf
  obtain ⟨_, ho, hf⟩ := hf
  replace hf := zf_b3e hf
  obtain ⟨v2, h3, hv, hf⟩ | ⟨E4, h3, hv, hf⟩ := hf
  rotate_left
  · cases hf; exact zv_cx zq_245 zo_245 rfl rfl rfl rfl rfl (zv_cv rfl rfl rfl (zf_ise ho) rfl) (t_f_ColumnVault_sheetOf _ _ _ _ _ hv) rfl
  refine zv_c zq_245 zo_245 rfl rfl rfl rfl rfl (zv_cv rfl rfl rfl (zf_ise ho) rfl) (t_f_ColumnVault_sheetOf _ _ _ _ _ hv) ?_
  replace hf := zf_be hf
  obtain ⟨_, ho, hf⟩ := hf
  replace hf := zf_b2e hf
  obtain ⟨v5, h6, hv, hf⟩ := hf
  refine zv_c zq_245 zo_245 rfl rfl rfl rfl rfl (zv_cv rfl rfl rfl (zf_ise ho) rfl) (t_f_Checks_failuresOf _ _ _ _ _ hv) ?_
  cases hf
  exact zv_rn zq_245 zo_245 rfl rfl
/-! ColumnVaultLaw.isSorted (LColumnVault;arr II)Z -/
noncomputable def zI_203 : zd_T := [[(0, .aload_n 0, 1), (1, .iload_n 2, 1), (2, .iconst 1, 1), (3, .invokevirtual 147, 3), (6, .istore_n 3, 1), (7, .iconst 0, 1), (8, .istore 4, 2), (10, .iload 4, 2), (12, .iconst 2, 1), (13, .if_icmp .ge 323, 3), (16, .aload_n 1, 1), (17, .iload_n 3, 1), (18, .invokestatic 16, 3), (21, .istore 5, 2), (23, .aload_n 1, 1), (24, .iconst 2, 1), (25, .invokestatic 16, 3), (28, .ifCond .ne 7, 3), (31, .iconst 1, 1)], [(32, .goto 4, 3), (35, .iconst 0, 1), (36, .istore 6, 2), (38, .aload_n 1, 1), (39, .iconst 2, 1), (40, .invokestatic 16, 3), (43, .ifCond .ne 7, 3), (46, .iconst 1, 1), (47, .goto 4, 3), (50, .iconst 0, 1), (51, .istore 7, 2), (53, .aload_n 0, 1), (54, .iload_n 2, 1), (55, .invokestatic 188, 3), (58, .astore 8, 2), (60, .aload_n 0, 1), (61, .iload_n 2, 1), (62, .iload 5, 2)], [(64, .iload 6, 2), (66, .iload 7, 2), (68, .invokevirtual 206, 3), (71, .istore 9, 2), (73, .aload_n 0, 1), (74, .iload_n 2, 1), (75, .invokestatic 188, 3), (78, .astore 10, 2), (80, .iconst 0, 1), (81, .istore 11, 2), (83, .aload 10, 2), (85, .arraylength, 1), (86, .newarray .int, 2), (88, .astore 12, 2), (90, .iconst 0, 1), (91, .istore 13, 2), (93, .iload 13, 2), (95, .aload 8, 2)], [(97, .arraylength, 1), (98, .if_icmp .ge 42, 3), (101, .aload 12, 2), (103, .aload 8, 2), (105, .iload 13, 2), (107, .iaload, 1), (108, .iload 13, 2), (110, .iastore, 1), (111, .iload 11, 2), (113, .aload 8, 2), (115, .iload 13, 2), (117, .iaload, 1), (118, .aload 10, 2), (120, .iload 13, 2), (122, .iaload, 1), (123, .if_icmp .eq 7, 3), (126, .iconst 1, 1), (127, .goto 4, 3)], [(130, .iconst 0, 1), (131, .iadd, 1), (132, .istore 11, 2), (134, .iinc 13 1, 3), (137, .goto (-44), 3), (140, .iload 9, 2), (142, .iload 11, 2), (144, .if_icmp .ne 9, 3), (147, .iload 9, 2), (149, .iconst 1, 1), (150, .if_icmp .ne 5, 3), (153, .iconst 0, 1), (154, .ireturn, 1), (155, .iconst 1, 1), (156, .istore 13, 2), (158, .iload 13, 2)], [(160, .aload 10, 2), (162, .arraylength, 1), (163, .if_icmp .ge 167, 3), (166, .aload_n 0, 1), (167, .iload_n 2, 1), (168, .aload 10, 2), (170, .iload 13, 2), (172, .iconst 1, 1), (173, .isub, 1), (174, .iaload, 1), (175, .iload 5, 2), (177, .invokevirtual 91, 3), (180, .lstore 14, 2), (182, .aload_n 0, 1), (183, .iload_n 2, 1), (184, .aload 10, 2), (186, .iload 13, 2), (188, .iaload, 1), (189, .iload 5, 2), (191, .invokevirtual 91, 3)], [(194, .lstore 16, 2), (196, .lload 14, 2), (198, .lload 16, 2), (200, .lcmp, 1), (201, .ifCond .ne 7, 3), (204, .iconst 0, 1), (205, .goto 84, 3), (208, .lload 14, 2), (210, .ldc2_w 204, 3), (213, .lcmp, 1), (214, .ifCond .ne 16, 3), (217, .iload 7, 2), (219, .ifCond .eq 7, 3), (222, .iconst (-1), 1), (223, .goto 66, 3)], [(226, .iconst 1, 1), (227, .goto 62, 3), (230, .lload 16, 2), (232, .ldc2_w 204, 3), (235, .lcmp, 1), (236, .ifCond .ne 16, 3), (239, .iload 7, 2), (241, .ifCond .eq 7, 3), (244, .iconst 1, 1), (245, .goto 44, 3), (248, .iconst (-1), 1), (249, .goto 40, 3), (252, .iload 6, 2), (254, .ifCond .eq 21, 3)], [(257, .aload_n 0, 1), (258, .iload_n 2, 1), (259, .iload 5, 2), (261, .invokevirtual 166, 3), (264, .lload 14, 2), (266, .lload 16, 2), (268, .invokestatic 210, 3), (271, .ineg, 1), (272, .goto 17, 3), (275, .aload_n 0, 1), (276, .iload_n 2, 1), (277, .iload 5, 2), (279, .invokevirtual 166, 3), (282, .lload 14, 2), (284, .lload 16, 2), (286, .invokestatic 210, 3)], [(289, .istore 18, 2), (291, .iload 18, 2), (293, .ifCond .gt 29, 3), (296, .iload 18, 2), (298, .ifCond .ne 26, 3), (301, .aload 12, 2), (303, .aload 10, 2), (305, .iload 13, 2), (307, .iconst 1, 1), (308, .isub, 1), (309, .iaload, 1), (310, .iaload, 1), (311, .aload 12, 2), (313, .aload 10, 2), (315, .iload 13, 2), (317, .iaload, 1), (318, .iaload, 1), (319, .if_icmp .le 5, 3)], [(322, .iconst 0, 1), (323, .ireturn, 1), (324, .iinc 13 1, 3), (327, .goto (-169), 3), (330, .iinc 4 1, 3), (333, .goto (-323), 3), (336, .aload_n 0, 1), (337, .iload_n 2, 1), (338, .invokevirtual 214, 3), (341, .ifCond .ne 7, 3), (344, .iconst 1, 1), (345, .goto 4, 3), (348, .iconst 0, 1), (349, .ireturn, 1)]]
theorem zo_203 : zd_of 203 = some zI_203 := rfl
set_option maxRecDepth 100000 in
theorem zq_203 : zt_m[203]? = some (⟨"ColumnVaultLaw", "isSorted", "(LColumnVault;[II)Z"⟩, method_17_code, 19, some (.boolean), [], 17, 3, 0, 1, 99999, 0) := rfl
set_option maxHeartbeats 1000000 in
def f_ColumnVaultLaw_isSorted_289 (k10 : Nat → Nat → Int32 → Int32 → Int32 → zx_H → Option ((Int32 ⊕ Nat) × zx_H)) (k158 : Nat → Nat → Int32 → Int32 → Int32 → Int32 → Int32 → Int32 → Nat → Nat → Int32 → zx_H → Option ((Int32 ⊕ Nat) × zx_H)) (p0 : Nat) (p1 : Nat) (p2 : Int32) (p3 : Int32) (p4 : Int32) (p5 : Int32) (p6 : Int32) (p7 : Int32) (p8 : Nat) (p9 : Nat) (p10 : Int32) (p11 : Int32) (h : zx_H) : Option ((Int32 ⊕ Nat) × zx_H) :=
  if 0 < p11 then
    some (.inl (0 : Int32), h)
  else
    if ¬ p11 = 0 then
      k158 p0 p1 p2 p3 p4 p5 p6 p7 p8 p9 (p10 + (1 : Int32)) h
    else
      zf_b (zf_ldI p8 (p10 - (1 : Int32)) h) fun v1 =>
      zf_b (zf_ldI p9 v1 h) fun v2 =>
      zf_b (zf_ldI p8 p10 h) fun v3 =>
      zf_b (zf_ldI p9 v3 h) fun v4 =>
      if v2 ≤ v4 then
        k158 p0 p1 p2 p3 p4 p5 p6 p7 p8 p9 (p10 + (1 : Int32)) h
      else
        some (.inl (0 : Int32), h)
set_option maxHeartbeats 4000000 in
set_option maxRecDepth 400000 in
theorem t_f_ColumnVaultLaw_isSorted_289 {sc : (Nat × (Nat → Int32)) × Bool} {d : Nat} {k10 : Nat → Nat → Int32 → Int32 → Int32 → zx_H → Option ((Int32 ⊕ Nat) × zx_H)} {k158 : Nat → Nat → Int32 → Int32 → Int32 → Int32 → Int32 → Int32 → Nat → Nat → Int32 → zx_H → Option ((Int32 ⊕ Nat) × zx_H)} (hk10 : ∀ (a0 : Nat) (a1 : Nat) (a2 : Int32) (a3 : Int32) (a4 : Int32) (h : zx_H) (r : (Int32 ⊕ Nat)) (h' : zx_H), k10 a0 a1 a2 a3 a4 h = some (r, h') → zx_T sc (d + 8) 203 (10, [(0, .ref a0), (1, .ref a1), (2, .int a2), (3, .int a3), (4, .int a4)], []) h (zf_oIx r) h') (hk158 : ∀ (a0 : Nat) (a1 : Nat) (a2 : Int32) (a3 : Int32) (a4 : Int32) (a5 : Int32) (a6 : Int32) (a7 : Int32) (a8 : Nat) (a9 : Nat) (a10 : Int32) (h : zx_H) (r : (Int32 ⊕ Nat)) (h' : zx_H), k158 a0 a1 a2 a3 a4 a5 a6 a7 a8 a9 a10 h = some (r, h') → zx_T sc (d + 8) 203 (158, [(0, .ref a0), (1, .ref a1), (2, .int a2), (3, .int a3), (4, .int a4), (5, .int a5), (6, .int a6), (7, .int a7), (10, .ref a8), (12, .ref a9), (13, .int a10)], []) h (zf_oIx r) h') (p0 : Nat) (p1 : Nat) (p2 : Int32) (p3 : Int32) (p4 : Int32) (p5 : Int32) (p6 : Int32) (p7 : Int32) (p8 : Nat) (p9 : Nat) (p10 : Int32) (p11 : Int32) (h : zx_H) (r : (Int32 ⊕ Nat)) (h' : zx_H) (hf : f_ColumnVaultLaw_isSorted_289 k10 k158 p0 p1 p2 p3 p4 p5 p6 p7 p8 p9 p10 p11 h = some (r, h')) : zx_T sc (d + 8) 203 (289, [(0, .ref p0), (1, .ref p1), (2, .int p2), (3, .int p3), (4, .int p4), (5, .int p5), (6, .int p6), (7, .int p7), (10, .ref p8), (12, .ref p9), (13, .int p10)], [.int p11]) h (zf_oIx r) h' := by
  unfold f_ColumnVaultLaw_isSorted_289 at hf
  refine zv_p (k := 2) (f' := (293, [(18, .int p11), (0, .ref p0), (1, .ref p1), (2, .int p2), (3, .int p3), (4, .int p4), (5, .int p5), (6, .int p6), (7, .int p7), (10, .ref p8), (12, .ref p9), (13, .int p10)], [.int p11])) zq_203 zo_203 (by with_unfolding_all rfl) ?_
  replace hf := zf_ite hf
  obtain ⟨hc, hf⟩ | ⟨hc, hf⟩ := hf
  · refine zv_brT (off := 29) (tt := 322) (r := []) zq_203 zo_203 hc rfl rfl rfl ?_
    refine zv_p (k := 1) (f' := (323, [(18, .int p11), (0, .ref p0), (1, .ref p1), (2, .int p2), (3, .int p3), (4, .int p4), (5, .int p5), (6, .int p6), (7, .int p7), (10, .ref p8), (12, .ref p9), (13, .int p10)], [.int (0 : Int32)])) zq_203 zo_203 (by with_unfolding_all rfl) ?_
    cases hf
    exact zv_rn zq_203 zo_203 rfl rfl
  · refine zv_brF (off := 29) (tt := 322) (r := []) zq_203 zo_203 hc rfl rfl rfl ?_
    refine zv_p (k := 1) (f' := (298, [(18, .int p11), (0, .ref p0), (1, .ref p1), (2, .int p2), (3, .int p3), (4, .int p4), (5, .int p5), (6, .int p6), (7, .int p7), (10, .ref p8), (12, .ref p9), (13, .int p10)], [.int p11])) zq_203 zo_203 (by with_unfolding_all rfl) ?_
    replace hf := zf_ite hf
    obtain ⟨hc, hf⟩ | ⟨hc, hf⟩ := hf
    · refine zv_brT (off := 26) (tt := 324) (r := []) zq_203 zo_203 hc rfl rfl rfl ?_
      refine zv_p (k := 2) (f' := (158, [(13, .int (p10 + (1 : Int32))), (18, .int p11), (0, .ref p0), (1, .ref p1), (2, .int p2), (3, .int p3), (4, .int p4), (5, .int p5), (6, .int p6), (7, .int p7), (10, .ref p8), (12, .ref p9)], [])) zq_203 zo_203 (by with_unfolding_all rfl) ?_
      refine zv_pick (lv' := [(0, .ref p0), (1, .ref p1), (2, .int p2), (3, .int p3), (4, .int p4), (5, .int p5), (6, .int p6), (7, .int p7), (10, .ref p8), (12, .ref p9), (13, .int (p10 + (1 : Int32)))]) [0, 1, 2, 3, 4, 5, 6, 7, 10, 12, 13] rfl rfl ?_
      exact hk158 _ _ _ _ _ _ _ _ _ _ _ _ _ _ hf
    · refine zv_brF (off := 26) (tt := 324) (r := []) zq_203 zo_203 hc rfl rfl rfl ?_
      refine zv_p (k := 5) (f' := (309, [(18, .int p11), (0, .ref p0), (1, .ref p1), (2, .int p2), (3, .int p3), (4, .int p4), (5, .int p5), (6, .int p6), (7, .int p7), (10, .ref p8), (12, .ref p9), (13, .int p10)], [.int (p10 - (1 : Int32)), .ref p8, .ref p9])) zq_203 zo_203 (by with_unfolding_all rfl) ?_
      replace hf := zf_be hf
      obtain ⟨v1, hv, hf⟩ := hf
      refine zv_ldI zq_203 zo_203 rfl hv ?_
      replace hf := zf_be hf
      obtain ⟨v2, hv, hf⟩ := hf
      refine zv_ldI zq_203 zo_203 rfl hv ?_
      refine zv_p (k := 3) (f' := (317, [(18, .int p11), (0, .ref p0), (1, .ref p1), (2, .int p2), (3, .int p3), (4, .int p4), (5, .int p5), (6, .int p6), (7, .int p7), (10, .ref p8), (12, .ref p9), (13, .int p10)], [.int p10, .ref p8, .ref p9, .int v2])) zq_203 zo_203 (by with_unfolding_all rfl) ?_
      replace hf := zf_be hf
      obtain ⟨v3, hv, hf⟩ := hf
      refine zv_ldI zq_203 zo_203 rfl hv ?_
      replace hf := zf_be hf
      obtain ⟨v4, hv, hf⟩ := hf
      refine zv_ldI zq_203 zo_203 rfl hv ?_
      replace hf := zf_ite hf
      obtain ⟨hc, hf⟩ | ⟨hc, hf⟩ := hf
      · refine zv_brT (off := 5) (tt := 324) (r := []) zq_203 zo_203 hc rfl rfl rfl ?_
        refine zv_p (k := 2) (f' := (158, [(13, .int (p10 + (1 : Int32))), (18, .int p11), (0, .ref p0), (1, .ref p1), (2, .int p2), (3, .int p3), (4, .int p4), (5, .int p5), (6, .int p6), (7, .int p7), (10, .ref p8), (12, .ref p9)], [])) zq_203 zo_203 (by with_unfolding_all rfl) ?_
        refine zv_pick (lv' := [(0, .ref p0), (1, .ref p1), (2, .int p2), (3, .int p3), (4, .int p4), (5, .int p5), (6, .int p6), (7, .int p7), (10, .ref p8), (12, .ref p9), (13, .int (p10 + (1 : Int32)))]) [0, 1, 2, 3, 4, 5, 6, 7, 10, 12, 13] rfl rfl ?_
        exact hk158 _ _ _ _ _ _ _ _ _ _ _ _ _ _ hf
      · refine zv_brF (off := 5) (tt := 324) (r := []) zq_203 zo_203 hc rfl rfl rfl ?_
        refine zv_p (k := 1) (f' := (323, [(18, .int p11), (0, .ref p0), (1, .ref p1), (2, .int p2), (3, .int p3), (4, .int p4), (5, .int p5), (6, .int p6), (7, .int p7), (10, .ref p8), (12, .ref p9), (13, .int p10)], [.int (0 : Int32)])) zq_203 zo_203 (by with_unfolding_all rfl) ?_
        cases hf
        exact zv_rn zq_203 zo_203 rfl rfl
