/-! ColumnVault$Sheet.differentRows ()J -/
noncomputable def zI_121 : zd_T := [[(0, .lconst 0, 1), (1, .lstore_n 1, 1), (2, .iconst 0, 1), (3, .istore_n 3, 1), (4, .iload_n 3, 1), (5, .aload_n 0, 1), (6, .getfield 26, 3), (9, .if_icmp .ge 43, 3), (12, .aload_n 0, 1), (13, .getfield 29, 3), (16, .iload_n 3, 1), (17, .invokestatic 86, 3), (20, .ifCond .eq 26, 3), (23, .aload_n 0, 1), (24, .iload_n 3, 1), (25, .aload_n 0, 1), (26, .invokevirtual 106, 3), (29, .lconst 1, 1), (30, .iload_n 3, 1), (31, .lshl, 1)], [(32, .lconst 1, 1), (33, .lsub, 1), (34, .land, 1), (35, .lconst 0, 1), (36, .lcmp, 1), (37, .ifCond .ne 9, 3), (40, .lload_n 1, 1), (41, .lconst 1, 1), (42, .iload_n 3, 1), (43, .lshl, 1), (44, .lor, 1), (45, .lstore_n 1, 1), (46, .iinc 3 1, 3), (49, .goto (-45), 3), (52, .lload_n 1, 1), (53, .lreturn, 1)]]
theorem zo_121 : zd_of 121 = some zI_121 := rfl
set_option maxRecDepth 100000 in
theorem zq_121 : zt_m[121]? = some (⟨"ColumnVault$Sheet", "differentRows", "()J"⟩, prog_10_method_32_code, 4, some (.long), [], 10, 0, 0, 0, 0, 0) := rfl
set_option maxHeartbeats 1000000 in
def f_Sheet_differentRows_4 : Nat → Nat → Int64 → Int32 → zx_H → Option (Int64 × zx_H)
  | 0, _, _, _, _ => none
  | n + 1, p0, p1, p2, h =>
    zf_b (zf_I 10 4 p0 h) fun v1 =>
    if v1 ≤ p2 then
      some (p1, h)
    else
      zf_b (zf_J 10 5 p0 h) fun v2 =>
      zf_b2 (f_ColumnVault_holdsRow v2 p2 h) fun v3 h4 =>
      if v3 = 0 then
        (f_Sheet_differentRows_4 n) p0 p1 (p2 + (1 : Int32)) h4
      else
        zf_b (zf_is 10 p0 h4) fun _ =>
        zf_b2 (f_Sheet_chosenAlike p0 p2 p0 h4) fun v5 h6 =>
        if ¬ (v5 &&& (((1 : Int64) <<< ((p2).toInt64 &&& 63)) - (1 : Int64))) = (0 : Int64) then
          (f_Sheet_differentRows_4 n) p0 p1 (p2 + (1 : Int32)) h6
        else
          (f_Sheet_differentRows_4 n) p0 (p1 ||| ((1 : Int64) <<< ((p2).toInt64 &&& 63))) (p2 + (1 : Int32)) h6
set_option maxHeartbeats 4000000 in
set_option maxRecDepth 400000 in
theorem t_f_Sheet_differentRows_4 {sc : (Nat × (Nat → Int32)) × Bool} {d : Nat} : ∀ (n : Nat) (p0 : Nat) (p1 : Int64) (p2 : Int32) (h : zx_H) (r : Int64) (h' : zx_H), f_Sheet_differentRows_4 n p0 p1 p2 h = some (r, h') → zx_T sc (d + 3) 121 (4, [(0, .ref p0), (1, .long p1), (3, .int p2)], []) h (zf_oJ r) h' := by
  intro n
  induction n with
  | zero => intro p0 p1 p2 h r h' hf; cases hf
  | succ n ih =>
    intro p0 p1 p2 h r h' hf
    unfold f_Sheet_differentRows_4 at hf
    refine zv_p (k := 2) (f' := (6, [(0, .ref p0), (1, .long p1), (3, .int p2)], [.ref p0, .int p2])) zq_121 zo_121 (by with_unfolding_all rfl) ?_
    replace hf := zf_be hf
    obtain ⟨v1, hv, hf⟩ := hf
    refine zv_gf zq_121 zo_121 rfl rfl rfl (zf_Ie hv) ?_
    replace hf := zf_ite hf
    obtain ⟨hc, hf⟩ | ⟨hc, hf⟩ := hf
    · refine zv_brT (off := 43) (tt := 52) (r := []) zq_121 zo_121 hc rfl rfl rfl ?_
      refine zv_p (k := 1) (f' := (53, [(0, .ref p0), (1, .long p1), (3, .int p2)], [.long p1])) zq_121 zo_121 (by with_unfolding_all rfl) ?_
      cases hf
      exact zv_r zq_121 zo_121 rfl rfl rfl rfl rfl
    · refine zv_brF (off := 43) (tt := 52) (r := []) zq_121 zo_121 hc rfl rfl rfl ?_
      refine zv_p (k := 1) (f' := (13, [(0, .ref p0), (1, .long p1), (3, .int p2)], [.ref p0])) zq_121 zo_121 (by with_unfolding_all rfl) ?_
      replace hf := zf_be hf
      obtain ⟨v2, hv, hf⟩ := hf
      refine zv_gf zq_121 zo_121 rfl rfl rfl (zf_Je hv) ?_
      refine zv_p (k := 1) (f' := (17, [(0, .ref p0), (1, .long p1), (3, .int p2)], [.int p2, .long v2])) zq_121 zo_121 (by with_unfolding_all rfl) ?_
      replace hf := zf_b2e hf
      obtain ⟨v3, h4, hv, hf⟩ := hf
      refine zv_c zq_121 zo_121 rfl rfl rfl rfl rfl rfl (t_f_ColumnVault_holdsRow _ _ _ _ _ hv) ?_
      replace hf := zf_ite hf
      obtain ⟨hc, hf⟩ | ⟨hc, hf⟩ := hf
      · refine zv_brT (off := 26) (tt := 46) (r := []) zq_121 zo_121 hc rfl rfl rfl ?_
        refine zv_p (k := 2) (f' := (4, [(3, .int (p2 + (1 : Int32))), (0, .ref p0), (1, .long p1)], [])) zq_121 zo_121 (by with_unfolding_all rfl) ?_
        refine zv_pick (lv' := [(0, .ref p0), (1, .long p1), (3, .int (p2 + (1 : Int32)))]) [0, 1, 3] rfl rfl ?_
        exact ih _ _ _ _ _ _ hf
      · refine zv_brF (off := 26) (tt := 46) (r := []) zq_121 zo_121 hc rfl rfl rfl ?_
        refine zv_p (k := 3) (f' := (26, [(0, .ref p0), (1, .long p1), (3, .int p2)], [.ref p0, .int p2, .ref p0])) zq_121 zo_121 (by with_unfolding_all rfl) ?_
        replace hf := zf_be hf
        obtain ⟨_, ho, hf⟩ := hf
        replace hf := zf_b2e hf
        obtain ⟨v5, h6, hv, hf⟩ := hf
        refine zv_c zq_121 zo_121 rfl rfl rfl rfl rfl (zv_cv rfl rfl rfl (zf_ise ho) rfl) (t_f_Sheet_chosenAlike _ _ _ _ _ _ hv) ?_
        refine zv_p (k := 8) (f' := (37, [(0, .ref p0), (1, .long p1), (3, .int p2)], [.int (lg_cmp (v5 &&& (((1 : Int64) <<< ((p2).toInt64 &&& 63)) - (1 : Int64))) (0 : Int64))])) zq_121 zo_121 (by with_unfolding_all rfl) ?_
        replace hf := zf_ite hf
        obtain ⟨hc, hf⟩ | ⟨hc, hf⟩ := hf
        · refine zv_brT (off := 9) (tt := 46) (r := []) zq_121 zo_121 (zl_ne.mpr hc) rfl rfl rfl ?_
          refine zv_p (k := 2) (f' := (4, [(3, .int (p2 + (1 : Int32))), (0, .ref p0), (1, .long p1)], [])) zq_121 zo_121 (by with_unfolding_all rfl) ?_
          refine zv_pick (lv' := [(0, .ref p0), (1, .long p1), (3, .int (p2 + (1 : Int32)))]) [0, 1, 3] rfl rfl ?_
          exact ih _ _ _ _ _ _ hf
        · refine zv_brF (off := 9) (tt := 46) (r := []) zq_121 zo_121 (mt zl_ne.mp hc) rfl rfl rfl ?_
          refine zv_p (k := 8) (f' := (4, [(3, .int (p2 + (1 : Int32))), (1, .long (p1 ||| ((1 : Int64) <<< ((p2).toInt64 &&& 63)))), (0, .ref p0)], [])) zq_121 zo_121 (by with_unfolding_all rfl) ?_
          refine zv_pick (lv' := [(0, .ref p0), (1, .long (p1 ||| ((1 : Int64) <<< ((p2).toInt64 &&& 63)))), (3, .int (p2 + (1 : Int32)))]) [0, 1, 3] rfl rfl ?_
          exact ih _ _ _ _ _ _ hf
set_option maxHeartbeats 1000000 in
def f_Sheet_differentRows (p0 : Nat) (h : zx_H) : Option (Int64 × zx_H) :=
  f_Sheet_differentRows_4 zF p0 (0 : Int64) (0 : Int32) h
set_option maxHeartbeats 4000000 in
set_option maxRecDepth 400000 in
theorem t_f_Sheet_differentRows {sc : (Nat × (Nat → Int32)) × Bool} {d : Nat} (p0 : Nat) (h : zx_H) (r : Int64) (h' : zx_H) (hf : f_Sheet_differentRows p0 h = some (r, h')) : zx_T sc (d + 3) 121 (0, [(0, .ref p0)], []) h (zf_oJ r) h' := by
  unfold f_Sheet_differentRows at hf
  refine zv_p (k := 4) (f' := (4, [(3, .int (0 : Int32)), (1, .long (0 : Int64)), (0, .ref p0)], [])) zq_121 zo_121 (by with_unfolding_all rfl) ?_
  refine zv_pick (lv' := [(0, .ref p0), (1, .long (0 : Int64)), (3, .int (0 : Int32))]) [0, 1, 3] rfl rfl ?_
  exact t_f_Sheet_differentRows_4 zF _ _ _ _ _ _ hf
/-! ColumnVault$Sheet.differentRowsOnlyHere (LColumnVault$Sheet;)I -/
noncomputable def zI_122 : zd_T := [[(0, .aload_n 0, 1), (1, .invokevirtual 110, 3), (4, .lstore_n 2, 1), (5, .iconst 0, 1), (6, .istore 4, 2), (8, .iconst 0, 1), (9, .istore 5, 2), (11, .iload 5, 2), (13, .aload_n 0, 1), (14, .getfield 26, 3), (17, .if_icmp .ge 33, 3), (20, .lload_n 2, 1), (21, .iload 5, 2), (23, .invokestatic 86, 3), (26, .ifCond .eq 18, 3), (29, .aload_n 0, 1), (30, .iload 5, 2)], [(32, .aload_n 1, 1), (33, .invokevirtual 106, 3), (36, .lconst 0, 1), (37, .lcmp, 1), (38, .ifCond .ne 6, 3), (41, .iinc 4 1, 3), (44, .iinc 5 1, 3), (47, .goto (-36), 3), (50, .iload 4, 2), (52, .ireturn, 1)]]
theorem zo_122 : zd_of 122 = some zI_122 := rfl
set_option maxRecDepth 100000 in
theorem zq_122 : zt_m[122]? = some (⟨"ColumnVault$Sheet", "differentRowsOnlyHere", "(LColumnVault$Sheet;)I"⟩, prog_10_method_33_code, 6, some (.int), [], 10, 1, 0, 0, 0, 0) := rfl
set_option maxHeartbeats 1000000 in
def f_Sheet_differentRowsOnlyHere_11 : Nat → Nat → Nat → Int64 → Int32 → Int32 → zx_H → Option (Int32 × zx_H)
  | 0, _, _, _, _, _, _ => none
  | n + 1, p0, p1, p2, p3, p4, h =>
    zf_b (zf_I 10 4 p0 h) fun v1 =>
    if v1 ≤ p4 then
      some (p3, h)
    else
      zf_b2 (f_ColumnVault_holdsRow p2 p4 h) fun v2 h3 =>
      if v2 = 0 then
        (f_Sheet_differentRowsOnlyHere_11 n) p0 p1 p2 p3 (p4 + (1 : Int32)) h3
      else
        zf_b (zf_is 10 p0 h3) fun _ =>
        zf_b2 (f_Sheet_chosenAlike p0 p4 p1 h3) fun v4 h5 =>
        if ¬ v4 = (0 : Int64) then
          (f_Sheet_differentRowsOnlyHere_11 n) p0 p1 p2 p3 (p4 + (1 : Int32)) h5
        else
          (f_Sheet_differentRowsOnlyHere_11 n) p0 p1 p2 (p3 + (1 : Int32)) (p4 + (1 : Int32)) h5
set_option maxHeartbeats 4000000 in
set_option maxRecDepth 400000 in
theorem t_f_Sheet_differentRowsOnlyHere_11 {sc : (Nat × (Nat → Int32)) × Bool} {d : Nat} : ∀ (n : Nat) (p0 : Nat) (p1 : Nat) (p2 : Int64) (p3 : Int32) (p4 : Int32) (h : zx_H) (r : Int32) (h' : zx_H), f_Sheet_differentRowsOnlyHere_11 n p0 p1 p2 p3 p4 h = some (r, h') → zx_T sc (d + 4) 122 (11, [(0, .ref p0), (1, .ref p1), (2, .long p2), (4, .int p3), (5, .int p4)], []) h (zf_oI r) h' := by
  intro n
  induction n with
  | zero => intro p0 p1 p2 p3 p4 h r h' hf; cases hf
  | succ n ih =>
    intro p0 p1 p2 p3 p4 h r h' hf
    unfold f_Sheet_differentRowsOnlyHere_11 at hf
    refine zv_p (k := 2) (f' := (14, [(0, .ref p0), (1, .ref p1), (2, .long p2), (4, .int p3), (5, .int p4)], [.ref p0, .int p4])) zq_122 zo_122 (by with_unfolding_all rfl) ?_
    replace hf := zf_be hf
    obtain ⟨v1, hv, hf⟩ := hf
    refine zv_gf zq_122 zo_122 rfl rfl rfl (zf_Ie hv) ?_
    replace hf := zf_ite hf
    obtain ⟨hc, hf⟩ | ⟨hc, hf⟩ := hf
    · refine zv_brT (off := 33) (tt := 50) (r := []) zq_122 zo_122 hc rfl rfl rfl ?_
      refine zv_p (k := 1) (f' := (52, [(0, .ref p0), (1, .ref p1), (2, .long p2), (4, .int p3), (5, .int p4)], [.int p3])) zq_122 zo_122 (by with_unfolding_all rfl) ?_
      cases hf
      exact zv_rn zq_122 zo_122 rfl rfl
    · refine zv_brF (off := 33) (tt := 50) (r := []) zq_122 zo_122 hc rfl rfl rfl ?_
      refine zv_p (k := 2) (f' := (23, [(0, .ref p0), (1, .ref p1), (2, .long p2), (4, .int p3), (5, .int p4)], [.int p4, .long p2])) zq_122 zo_122 (by with_unfolding_all rfl) ?_
      replace hf := zf_b2e hf
      obtain ⟨v2, h3, hv, hf⟩ := hf
      refine zv_c zq_122 zo_122 rfl rfl rfl rfl rfl rfl (t_f_ColumnVault_holdsRow _ _ _ _ _ hv) ?_
      replace hf := zf_ite hf
      obtain ⟨hc, hf⟩ | ⟨hc, hf⟩ := hf
      · refine zv_brT (off := 18) (tt := 44) (r := []) zq_122 zo_122 hc rfl rfl rfl ?_
        refine zv_p (k := 2) (f' := (11, [(5, .int (p4 + (1 : Int32))), (0, .ref p0), (1, .ref p1), (2, .long p2), (4, .int p3)], [])) zq_122 zo_122 (by with_unfolding_all rfl) ?_
        refine zv_pick (lv' := [(0, .ref p0), (1, .ref p1), (2, .long p2), (4, .int p3), (5, .int (p4 + (1 : Int32)))]) [0, 1, 2, 4, 5] rfl rfl ?_
        exact ih _ _ _ _ _ _ _ _ hf
      · refine zv_brF (off := 18) (tt := 44) (r := []) zq_122 zo_122 hc rfl rfl rfl ?_
        refine zv_p (k := 3) (f' := (33, [(0, .ref p0), (1, .ref p1), (2, .long p2), (4, .int p3), (5, .int p4)], [.ref p1, .int p4, .ref p0])) zq_122 zo_122 (by with_unfolding_all rfl) ?_
        replace hf := zf_be hf
        obtain ⟨_, ho, hf⟩ := hf
        replace hf := zf_b2e hf
        obtain ⟨v4, h5, hv, hf⟩ := hf
        refine zv_c zq_122 zo_122 rfl rfl rfl rfl rfl (zv_cv rfl rfl rfl (zf_ise ho) rfl) (t_f_Sheet_chosenAlike _ _ _ _ _ _ hv) ?_
        refine zv_p (k := 2) (f' := (38, [(0, .ref p0), (1, .ref p1), (2, .long p2), (4, .int p3), (5, .int p4)], [.int (lg_cmp v4 (0 : Int64))])) zq_122 zo_122 (by with_unfolding_all rfl) ?_
        replace hf := zf_ite hf
        obtain ⟨hc, hf⟩ | ⟨hc, hf⟩ := hf
        · refine zv_brT (off := 6) (tt := 44) (r := []) zq_122 zo_122 (zl_ne.mpr hc) rfl rfl rfl ?_
          refine zv_p (k := 2) (f' := (11, [(5, .int (p4 + (1 : Int32))), (0, .ref p0), (1, .ref p1), (2, .long p2), (4, .int p3)], [])) zq_122 zo_122 (by with_unfolding_all rfl) ?_
          refine zv_pick (lv' := [(0, .ref p0), (1, .ref p1), (2, .long p2), (4, .int p3), (5, .int (p4 + (1 : Int32)))]) [0, 1, 2, 4, 5] rfl rfl ?_
          exact ih _ _ _ _ _ _ _ _ hf
        · refine zv_brF (off := 6) (tt := 44) (r := []) zq_122 zo_122 (mt zl_ne.mp hc) rfl rfl rfl ?_
          refine zv_p (k := 3) (f' := (11, [(5, .int (p4 + (1 : Int32))), (4, .int (p3 + (1 : Int32))), (0, .ref p0), (1, .ref p1), (2, .long p2)], [])) zq_122 zo_122 (by with_unfolding_all rfl) ?_
          refine zv_pick (lv' := [(0, .ref p0), (1, .ref p1), (2, .long p2), (4, .int (p3 + (1 : Int32))), (5, .int (p4 + (1 : Int32)))]) [0, 1, 2, 4, 5] rfl rfl ?_
          exact ih _ _ _ _ _ _ _ _ hf
set_option maxHeartbeats 1000000 in
def f_Sheet_differentRowsOnlyHere (p0 : Nat) (p1 : Nat) (h : zx_H) : Option (Int32 × zx_H) :=
  zf_b (zf_is 10 p0 h) fun _ =>
  zf_b2 (f_Sheet_differentRows p0 h) fun v1 h2 =>
  f_Sheet_differentRowsOnlyHere_11 zF p0 p1 v1 (0 : Int32) (0 : Int32) h2
set_option maxHeartbeats 4000000 in
set_option maxRecDepth 400000 in
theorem t_f_Sheet_differentRowsOnlyHere {sc : (Nat × (Nat → Int32)) × Bool} {d : Nat} (p0 : Nat) (p1 : Nat) (h : zx_H) (r : Int32) (h' : zx_H) (hf : f_Sheet_differentRowsOnlyHere p0 p1 h = some (r, h')) : zx_T sc (d + 4) 122 (0, [(0, .ref p0), (1, .ref p1)], []) h (zf_oI r) h' := by
  unfold f_Sheet_differentRowsOnlyHere at hf
  refine zv_p (k := 1) (f' := (1, [(0, .ref p0), (1, .ref p1)], [.ref p0])) zq_122 zo_122 (by with_unfolding_all rfl) ?_
  replace hf := zf_be hf
  obtain ⟨_, ho, hf⟩ := hf
  replace hf := zf_b2e hf
  obtain ⟨v1, h2, hv, hf⟩ := hf
  refine zv_c zq_122 zo_122 rfl rfl rfl rfl rfl (zv_cv rfl rfl rfl (zf_ise ho) rfl) (t_f_Sheet_differentRows _ _ _ _ hv) ?_
  refine zv_p (k := 5) (f' := (11, [(5, .int (0 : Int32)), (4, .int (0 : Int32)), (2, .long v1), (0, .ref p0), (1, .ref p1)], [])) zq_122 zo_122 (by with_unfolding_all rfl) ?_
  refine zv_pick (lv' := [(0, .ref p0), (1, .ref p1), (2, .long v1), (4, .int (0 : Int32)), (5, .int (0 : Int32))]) [0, 1, 2, 4, 5] rfl rfl ?_
  exact t_f_Sheet_differentRowsOnlyHere_11 zF _ _ _ _ _ _ _ _ hf
/-! ColumnVault.alike (III)I -/
noncomputable def zI_116 : zd_T := [[(0, .aload_n 0, 1), (1, .iload_n 1, 1), (2, .invokevirtual 53, 3), (5, .astore 4, 2), (7, .aload_n 0, 1), (8, .iload_n 2, 1), (9, .invokevirtual 53, 3), (12, .astore 5, 2), (14, .aload 4, 2), (16, .aload 5, 2), (18, .invokevirtual 333, 3), (21, .ifCond .ne 14, 3), (24, .new 57, 3), (27, .dup, 1), (28, .ldc_w 337, 3), (31, .invokespecial 61, 3)], [(34, .athrow, 1), (35, .iload_n 3, 1), (36, .tableswitch 82 0 3 #[32, 40, 57, 74], 32)], [(68, .aload 4, 2), (70, .aload 5, 2), (72, .invokevirtual 339, 3), (75, .ireturn, 1), (76, .aload 4, 2), (78, .invokevirtual 342, 3), (81, .invokestatic 137, 3), (84, .aload 5, 2), (86, .aload 4, 2), (88, .invokevirtual 345, 3), (91, .iadd, 1), (92, .ireturn, 1), (93, .aload 4, 2), (95, .invokevirtual 342, 3)], [(98, .invokestatic 137, 3), (101, .aload 4, 2), (103, .aload 5, 2), (105, .invokevirtual 345, 3), (108, .isub, 1), (109, .ireturn, 1), (110, .aload 4, 2), (112, .aload 5, 2), (114, .invokevirtual 345, 3), (117, .ireturn, 1), (118, .new 57, 3), (121, .dup, 1), (122, .ldc_w 348, 3), (125, .invokespecial 61, 3)], [(128, .athrow, 1)]]
theorem zo_116 : zd_of 116 = some zI_116 := rfl
set_option maxRecDepth 100000 in
theorem zq_116 : zt_m[116]? = some (⟨"ColumnVault", "alike", "(III)I"⟩, prog_1_method_37_code, 6, some (.int), [], 12, 3, 0, 0, 0, 0) := rfl
set_option maxHeartbeats 1000000 in
def f_ColumnVault_alike (p0 : Nat) (p1 : Int32) (p2 : Int32) (p3 : Int32) (h : zx_H) : Option ((Int32 ⊕ Nat) × zx_H) :=
  zf_b (zf_is 12 p0 h) fun _ =>
  zf_b3 (f_ColumnVault_sheetOf p0 p1 h) fun v1 h2 =>
  zf_b (zf_is 12 p0 h2) fun _ =>
  zf_b3 (f_ColumnVault_sheetOf p0 p2 h2) fun v4 h5 =>
  zf_b (zf_is 10 v1 h5) fun _ =>
  zf_b2 (f_Sheet_hasKindsOf v1 v4 h5) fun v7 h8 =>
  if ¬ v7 = 0 then
    if p3 = (0 : Int32) then
      zf_b (zf_is 10 v1 h8) fun _ =>
      zf_b2 (f_Sheet_rowsLeftBy v1 v4 h8) fun v9 h10 =>
      some (.inl v9, h10)
    else if p3 = (1 : Int32) then
      zf_b (zf_is 10 v1 h8) fun _ =>
      zf_b2 (f_Sheet_differentRows v1 h8) fun v11 h12 =>
      zf_b2 (f_Long_bitCount v11 h12) fun v13 h14 =>
      zf_b (zf_is 10 v4 h14) fun _ =>
      zf_b2 (f_Sheet_differentRowsOnlyHere v4 v1 h14) fun v15 h16 =>
      some (.inl (v13 + v15), h16)
    else if p3 = (2 : Int32) then
      zf_b (zf_is 10 v1 h8) fun _ =>
      zf_b2 (f_Sheet_differentRows v1 h8) fun v17 h18 =>
      zf_b2 (f_Long_bitCount v17 h18) fun v19 h20 =>
      zf_b (zf_is 10 v1 h20) fun _ =>
      zf_b2 (f_Sheet_differentRowsOnlyHere v1 v4 h20) fun v21 h22 =>
      some (.inl (v19 - v21), h22)
    else if p3 = (3 : Int32) then
      zf_b (zf_is 10 v1 h8) fun _ =>
      zf_b2 (f_Sheet_differentRowsOnlyHere v1 v4 h8) fun v23 h24 =>
      some (.inl v23, h24)
    else
      if h8.length < zx_lim then some (.inr 14, h8 ++ [.inr (14, [])]) else none
  else
    if h8.length < zx_lim then some (.inr 14, h8 ++ [.inr (14, [])]) else none
set_option maxHeartbeats 4000000 in
set_option maxRecDepth 400000 in
theorem t_f_ColumnVault_alike {sc : (Nat × (Nat → Int32)) × Bool} {d : Nat} (p0 : Nat) (p1 : Int32) (p2 : Int32) (p3 : Int32) (h : zx_H) (r : (Int32 ⊕ Nat)) (h' : zx_H) (hf : f_ColumnVault_alike p0 p1 p2 p3 h = some (r, h')) : zx_T sc (d + 5) 116 (0, [(0, .ref p0), (1, .int p1), (2, .int p2), (3, .int p3)], []) h (zf_oIx r) h' := by
  unfold f_ColumnVault_alike at hf
  refine zv_p (k := 2) (f' := (2, [(0, .ref p0), (1, .int p1), (2, .int p2), (3, .int p3)], [.int p1, .ref p0])) zq_116 zo_116 (by with_unfolding_all rfl) ?_
  replace hf := zf_be hf
  obtain ⟨_, ho, hf⟩ := hf
  replace hf := zf_b3e hf
  obtain ⟨v1, h2, hv, hf⟩ | ⟨E3, h2, hv, hf⟩ := hf
  rotate_left
  · cases hf; exact zv_cx zq_116 zo_116 rfl rfl rfl rfl rfl (zv_cv rfl rfl rfl (zf_ise ho) rfl) (t_f_ColumnVault_sheetOf _ _ _ _ _ hv) rfl
  refine zv_c zq_116 zo_116 rfl rfl rfl rfl rfl (zv_cv rfl rfl rfl (zf_ise ho) rfl) (t_f_ColumnVault_sheetOf _ _ _ _ _ hv) ?_
  refine zv_p (k := 3) (f' := (9, [(4, .ref v1), (0, .ref p0), (1, .int p1), (2, .int p2), (3, .int p3)], [.int p2, .ref p0])) zq_116 zo_116 (by with_unfolding_all rfl) ?_
  replace hf := zf_be hf
  obtain ⟨_, ho, hf⟩ := hf
  replace hf := zf_b3e hf
  obtain ⟨v4, h5, hv, hf⟩ | ⟨E6, h5, hv, hf⟩ := hf
  rotate_left
  · cases hf; exact zv_cx zq_116 zo_116 rfl rfl rfl rfl rfl (zv_cv rfl rfl rfl (zf_ise ho) rfl) (t_f_ColumnVault_sheetOf _ _ _ _ _ hv) rfl
  refine zv_c zq_116 zo_116 rfl rfl rfl rfl rfl (zv_cv rfl rfl rfl (zf_ise ho) rfl) (t_f_ColumnVault_sheetOf _ _ _ _ _ hv) ?_
  refine zv_p (k := 3) (f' := (18, [(5, .ref v4), (4, .ref v1), (0, .ref p0), (1, .int p1), (2, .int p2), (3, .int p3)], [.ref v4, .ref v1])) zq_116 zo_116 (by with_unfolding_all rfl) ?_
  replace hf := zf_be hf
  obtain ⟨_, ho, hf⟩ := hf
  replace hf := zf_b2e hf
  obtain ⟨v7, h8, hv, hf⟩ := hf
  refine zv_c zq_116 zo_116 rfl rfl rfl rfl rfl (zv_cv rfl rfl rfl (zf_ise ho) rfl) (t_f_Sheet_hasKindsOf _ _ _ _ _ hv) ?_
  replace hf := zf_ite hf
  obtain ⟨hc, hf⟩ | ⟨hc, hf⟩ := hf
  · refine zv_brT (off := 14) (tt := 35) (r := []) zq_116 zo_116 hc rfl rfl rfl ?_
    refine zv_p (k := 1) (f' := (36, [(5, .ref v4), (4, .ref v1), (0, .ref p0), (1, .int p1), (2, .int p2), (3, .int p3)], [.int p3])) zq_116 zo_116 (by with_unfolding_all rfl) ?_
    replace hf := zf_ite hf
    obtain ⟨hc, hf⟩ | ⟨hs0, hf⟩ := hf
    · refine zv_sw (f' := (68, [(5, .ref v4), (4, .ref v1), (0, .ref p0), (1, .int p1), (2, .int p2), (3, .int p3)], [])) zq_116 zo_116 rfl hc rfl ?_
      refine zv_p (k := 2) (f' := (72, [(5, .ref v4), (4, .ref v1), (0, .ref p0), (1, .int p1), (2, .int p2), (3, .int p3)], [.ref v4, .ref v1])) zq_116 zo_116 (by with_unfolding_all rfl) ?_
      replace hf := zf_be hf
      obtain ⟨_, ho, hf⟩ := hf
      replace hf := zf_b2e hf
      obtain ⟨v9, h10, hv, hf⟩ := hf
      refine zv_c zq_116 zo_116 rfl rfl rfl rfl rfl (zv_cv rfl rfl rfl (zf_ise ho) rfl) (t_f_Sheet_rowsLeftBy _ _ _ _ _ hv) ?_
      cases hf
      exact zv_rn zq_116 zo_116 rfl rfl
    replace hf := zf_ite hf
    obtain ⟨hc, hf⟩ | ⟨hs1, hf⟩ := hf
    · refine zv_sw (f' := (76, [(5, .ref v4), (4, .ref v1), (0, .ref p0), (1, .int p1), (2, .int p2), (3, .int p3)], [])) zq_116 zo_116 rfl hc rfl ?_
      refine zv_p (k := 1) (f' := (78, [(5, .ref v4), (4, .ref v1), (0, .ref p0), (1, .int p1), (2, .int p2), (3, .int p3)], [.ref v1])) zq_116 zo_116 (by with_unfolding_all rfl) ?_
      replace hf := zf_be hf
      obtain ⟨_, ho, hf⟩ := hf
      replace hf := zf_b2e hf
      obtain ⟨v11, h12, hv, hf⟩ := hf
      refine zv_c zq_116 zo_116 rfl rfl rfl rfl rfl (zv_cv rfl rfl rfl (zf_ise ho) rfl) (t_f_Sheet_differentRows _ _ _ _ hv) ?_
      replace hf := zf_b2e hf
      obtain ⟨v13, h14, hv, hf⟩ := hf
      refine zv_c zq_116 zo_116 rfl rfl rfl rfl rfl rfl (t_f_Long_bitCount _ _ _ _ hv) ?_
      refine zv_p (k := 2) (f' := (88, [(5, .ref v4), (4, .ref v1), (0, .ref p0), (1, .int p1), (2, .int p2), (3, .int p3)], [.ref v1, .ref v4, .int v13])) zq_116 zo_116 (by with_unfolding_all rfl) ?_
      replace hf := zf_be hf
      obtain ⟨_, ho, hf⟩ := hf
      replace hf := zf_b2e hf
      obtain ⟨v15, h16, hv, hf⟩ := hf
      refine zv_c zq_116 zo_116 rfl rfl rfl rfl rfl (zv_cv rfl rfl rfl (zf_ise ho) rfl) (t_f_Sheet_differentRowsOnlyHere _ _ _ _ _ hv) ?_
      refine zv_p (k := 1) (f' := (92, [(5, .ref v4), (4, .ref v1), (0, .ref p0), (1, .int p1), (2, .int p2), (3, .int p3)], [.int (v13 + v15)])) zq_116 zo_116 (by with_unfolding_all rfl) ?_
      cases hf
      exact zv_rn zq_116 zo_116 rfl rfl
    replace hf := zf_ite hf
    obtain ⟨hc, hf⟩ | ⟨hs2, hf⟩ := hf
    · refine zv_sw (f' := (93, [(5, .ref v4), (4, .ref v1), (0, .ref p0), (1, .int p1), (2, .int p2), (3, .int p3)], [])) zq_116 zo_116 rfl hc rfl ?_
      refine zv_p (k := 1) (f' := (95, [(5, .ref v4), (4, .ref v1), (0, .ref p0), (1, .int p1), (2, .int p2), (3, .int p3)], [.ref v1])) zq_116 zo_116 (by with_unfolding_all rfl) ?_
      replace hf := zf_be hf
      obtain ⟨_, ho, hf⟩ := hf
      replace hf := zf_b2e hf
      obtain ⟨v17, h18, hv, hf⟩ := hf
      refine zv_c zq_116 zo_116 rfl rfl rfl rfl rfl (zv_cv rfl rfl rfl (zf_ise ho) rfl) (t_f_Sheet_differentRows _ _ _ _ hv) ?_
      replace hf := zf_b2e hf
      obtain ⟨v19, h20, hv, hf⟩ := hf
      refine zv_c zq_116 zo_116 rfl rfl rfl rfl rfl rfl (t_f_Long_bitCount _ _ _ _ hv) ?_
      refine zv_p (k := 2) (f' := (105, [(5, .ref v4), (4, .ref v1), (0, .ref p0), (1, .int p1), (2, .int p2), (3, .int p3)], [.ref v4, .ref v1, .int v19])) zq_116 zo_116 (by with_unfolding_all rfl) ?_
      replace hf := zf_be hf
      obtain ⟨_, ho, hf⟩ := hf
      replace hf := zf_b2e hf
      obtain ⟨v21, h22, hv, hf⟩ := hf
      refine zv_c zq_116 zo_116 rfl rfl rfl rfl rfl (zv_cv rfl rfl rfl (zf_ise ho) rfl) (t_f_Sheet_differentRowsOnlyHere _ _ _ _ _ hv) ?_
      refine zv_p (k := 1) (f' := (109, [(5, .ref v4), (4, .ref v1), (0, .ref p0), (1, .int p1), (2, .int p2), (3, .int p3)], [.int (v19 - v21)])) zq_116 zo_116 (by with_unfolding_all rfl) ?_
      cases hf
      exact zv_rn zq_116 zo_116 rfl rfl
    replace hf := zf_ite hf
    obtain ⟨hc, hf⟩ | ⟨hs3, hf⟩ := hf
    · refine zv_sw (f' := (110, [(5, .ref v4), (4, .ref v1), (0, .ref p0), (1, .int p1), (2, .int p2), (3, .int p3)], [])) zq_116 zo_116 rfl hc rfl ?_
      refine zv_p (k := 2) (f' := (114, [(5, .ref v4), (4, .ref v1), (0, .ref p0), (1, .int p1), (2, .int p2), (3, .int p3)], [.ref v4, .ref v1])) zq_116 zo_116 (by with_unfolding_all rfl) ?_
      replace hf := zf_be hf
      obtain ⟨_, ho, hf⟩ := hf
      replace hf := zf_b2e hf
      obtain ⟨v23, h24, hv, hf⟩ := hf
      refine zv_c zq_116 zo_116 rfl rfl rfl rfl rfl (zv_cv rfl rfl rfl (zf_ise ho) rfl) (t_f_Sheet_differentRowsOnlyHere _ _ _ _ _ hv) ?_
      cases hf
      exact zv_rn zq_116 zo_116 rfl rfl
    refine zv_tsd (tt := 118) zq_116 zo_116 rfl (by have e0 := zi_ne (k := 0) rfl hs0; have e1 := zi_ne (k := 1) rfl hs1; have e2 := zi_ne (k := 2) rfl hs2; have e3 := zi_ne (k := 3) rfl hs3; omega) rfl ?_
    replace hf := zf_ite hf
    obtain ⟨hc, hf⟩ | ⟨hc, hf⟩ := hf
    · cases hf; exact zv_tw zq_116 zo_116 rfl rfl rfl rfl rfl rfl rfl rfl rfl hc
    · cases hf
  · refine zv_brF (off := 14) (tt := 35) (r := []) zq_116 zo_116 hc rfl rfl rfl ?_
    replace hf := zf_ite hf
    obtain ⟨hc, hf⟩ | ⟨hc, hf⟩ := hf
    · cases hf; exact zv_tw zq_116 zo_116 rfl rfl rfl rfl rfl rfl rfl rfl rfl hc
    · cases hf
/-! ColumnVault.groupTotal (III)J -/
noncomputable def zI_123 : zd_T := [[(0, .aload_n 0, 1), (1, .iload_n 1, 1), (2, .invokevirtual 272, 3), (5, .aload_n 0, 1), (6, .getfield 42, 3), (9, .getfield 282, 3), (12, .iload_n 2, 1), (13, .invokestatic 298, 3), (16, .aload_n 0, 1), (17, .getfield 42, 3), (20, .getfield 282, 3), (23, .iload_n 2, 1), (24, .aload_n 0, 1), (25, .getfield 42, 3), (28, .iload_n 1, 1), (29, .invokevirtual 279, 3)], [(32, .iload_n 3, 1), (33, .invokestatic 294, 3), (36, .lreturn, 1)]]
theorem zo_123 : zd_of 123 = some zI_123 := rfl
set_option maxRecDepth 100000 in
theorem zq_123 : zt_m[123]? = some (⟨"ColumnVault", "groupTotal", "(III)J"⟩, prog_1_method_31_code, 4, some (.long), [], 12, 3, 0, 0, 0, 0) := rfl
set_option maxHeartbeats 1000000 in
def f_ColumnVault_groupTotal (p0 : Nat) (p1 : Int32) (p2 : Int32) (p3 : Int32) (h : zx_H) : Option ((Int64 ⊕ Nat) × zx_H) :=
  zf_b (zf_is 12 p0 h) fun _ =>
  zf_b3 (f_ColumnVault_requireGroup p0 p1 h) fun _ h2 =>
  zf_b (zf_A 12 4 p0 h2) fun v4 =>
  zf_b (zf_A 5 0 v4 h2) fun v5 =>
  zf_b3 (f_ColumnVault_requireColumn v5 p2 h2) fun _ h7 =>
  zf_b (zf_A 12 4 p0 h7) fun v9 =>
  zf_b (zf_A 5 0 v9 h7) fun v10 =>
  zf_b (zf_A 12 4 p0 h7) fun v11 =>
  zf_b (zf_is 5 v11 h7) fun _ =>
  zf_b2 (f_Groups_rowsIn v11 p1 h7) fun v12 h13 =>
  zf_b3 (f_ColumnVault_totalOf v10 p2 v12 p3 h13) fun v14 h15 =>
  some (.inl v14, h15)
set_option maxHeartbeats 4000000 in
set_option maxRecDepth 400000 in
theorem t_f_ColumnVault_groupTotal {sc : (Nat × (Nat → Int32)) × Bool} {d : Nat} (p0 : Nat) (p1 : Int32) (p2 : Int32) (p3 : Int32) (h : zx_H) (r : (Int64 ⊕ Nat)) (h' : zx_H) (hf : f_ColumnVault_groupTotal p0 p1 p2 p3 h = some (r, h')) : zx_T sc (d + 5) 123 (0, [(0, .ref p0), (1, .int p1), (2, .int p2), (3, .int p3)], []) h (zf_oJx r) h' := by
  unfold f_ColumnVault_groupTotal at hf
  refine zv_p (k := 2) (f' := (2, [(0, .ref p0), (1, .int p1), (2, .int p2), (3, .int p3)], [.int p1, .ref p0])) zq_123 zo_123 (by with_unfolding_all rfl) ?_
  replace hf := zf_be hf
  obtain ⟨_, ho, hf⟩ := hf
  replace hf := zf_b3e hf
  obtain ⟨v1, h2, hv, hf⟩ | ⟨E3, h2, hv, hf⟩ := hf
  rotate_left
  · cases hf; exact zv_cx zq_123 zo_123 rfl rfl rfl rfl rfl (zv_cv rfl rfl rfl (zf_ise ho) rfl) (t_f_ColumnVault_requireGroup _ _ _ _ _ hv) rfl
  refine zv_c zq_123 zo_123 rfl rfl rfl rfl rfl (zv_cv rfl rfl rfl (zf_ise ho) rfl) (t_f_ColumnVault_requireGroup _ _ _ _ _ hv) ?_
  refine zv_p (k := 1) (f' := (6, [(0, .ref p0), (1, .int p1), (2, .int p2), (3, .int p3)], [.ref p0])) zq_123 zo_123 (by with_unfolding_all rfl) ?_
  replace hf := zf_be hf
  obtain ⟨v4, hv, hf⟩ := hf
  refine zv_gf zq_123 zo_123 rfl rfl rfl (zf_Ae hv) ?_
  replace hf := zf_be hf
  obtain ⟨v5, hv, hf⟩ := hf
  refine zv_gf zq_123 zo_123 rfl rfl rfl (zf_Ae hv) ?_
  refine zv_p (k := 1) (f' := (13, [(0, .ref p0), (1, .int p1), (2, .int p2), (3, .int p3)], [.int p2, .ref v5])) zq_123 zo_123 (by with_unfolding_all rfl) ?_
  replace hf := zf_b3e hf
  obtain ⟨v6, h7, hv, hf⟩ | ⟨E8, h7, hv, hf⟩ := hf
  rotate_left
  · cases hf; exact zv_cx zq_123 zo_123 rfl rfl rfl rfl rfl rfl (t_f_ColumnVault_requireColumn _ _ _ _ _ hv) rfl
  refine zv_c zq_123 zo_123 rfl rfl rfl rfl rfl rfl (t_f_ColumnVault_requireColumn _ _ _ _ _ hv) ?_
  refine zv_p (k := 1) (f' := (17, [(0, .ref p0), (1, .int p1), (2, .int p2), (3, .int p3)], [.ref p0])) zq_123 zo_123 (by with_unfolding_all rfl) ?_
  replace hf := zf_be hf
  obtain ⟨v9, hv, hf⟩ := hf
  refine zv_gf zq_123 zo_123 rfl rfl rfl (zf_Ae hv) ?_
  replace hf := zf_be hf
  obtain ⟨v10, hv, hf⟩ := hf
  refine zv_gf zq_123 zo_123 rfl rfl rfl (zf_Ae hv) ?_
  refine zv_p (k := 2) (f' := (25, [(0, .ref p0), (1, .int p1), (2, .int p2), (3, .int p3)], [.ref p0, .int p2, .ref v10])) zq_123 zo_123 (by with_unfolding_all rfl) ?_
  replace hf := zf_be hf
  obtain ⟨v11, hv, hf⟩ := hf
  refine zv_gf zq_123 zo_123 rfl rfl rfl (zf_Ae hv) ?_
  refine zv_p (k := 1) (f' := (29, [(0, .ref p0), (1, .int p1), (2, .int p2), (3, .int p3)], [.int p1, .ref v11, .int p2, .ref v10])) zq_123 zo_123 (by with_unfolding_all rfl) ?_
  replace hf := zf_be hf
  obtain ⟨_, ho, hf⟩ := hf
  replace hf := zf_b2e hf
  obtain ⟨v12, h13, hv, hf⟩ := hf
  refine zv_c zq_123 zo_123 rfl rfl rfl rfl rfl (zv_cv rfl rfl rfl (zf_ise ho) rfl) (t_f_Groups_rowsIn _ _ _ _ _ hv) ?_
  refine zv_p (k := 1) (f' := (33, [(0, .ref p0), (1, .int p1), (2, .int p2), (3, .int p3)], [.int p3, .long v12, .int p2, .ref v10])) zq_123 zo_123 (by with_unfolding_all rfl) ?_
  replace hf := zf_b3e hf
  obtain ⟨v14, h15, hv, hf⟩ | ⟨E16, h15, hv, hf⟩ := hf
  rotate_left
  · cases hf; exact zv_cx zq_123 zo_123 rfl rfl rfl rfl rfl rfl (t_f_ColumnVault_totalOf _ _ _ _ _ _ _ hv) rfl
  refine zv_c zq_123 zo_123 rfl rfl rfl rfl rfl rfl (t_f_ColumnVault_totalOf _ _ _ _ _ _ _ hv) ?_
  cases hf
  exact zv_r zq_123 zo_123 rfl rfl rfl rfl rfl
/-! ColumnVault.requireNumbers (LColumnVault$Sheet;I)V -/
noncomputable def zI_125 : zd_T := [[(0, .aload_n 0, 1), (1, .iload_n 1, 1), (2, .invokevirtual 95, 3), (5, .ifCond .eq 14, 3), (8, .new 57, 3), (11, .dup, 1), (12, .ldc_w 385, 3), (15, .invokespecial 61, 3), (18, .athrow, 1), (19, .return_, 1)]]
theorem zo_125 : zd_of 125 = some zI_125 := rfl
set_option maxRecDepth 100000 in
theorem zq_125 : zt_m[125]? = some (⟨"ColumnVault", "requireNumbers", "(LColumnVault$Sheet;I)V"⟩, prog_1_method_51_code, 2, none, [], 12, 2, 0, 1, 99999, 0) := rfl
set_option maxHeartbeats 1000000 in
def f_ColumnVault_requireNumbers (p0 : Nat) (p1 : Int32) (h : zx_H) : Option ((Unit ⊕ Nat) × zx_H) :=
  zf_b (zf_is 10 p0 h) fun _ =>
  zf_b2 (f_Sheet_kindOf p0 p1 h) fun v1 h2 =>
  if v1 = 0 then
    some (.inl (), h2)
  else
    if h2.length < zx_lim then some (.inr 14, h2 ++ [.inr (14, [])]) else none
set_option maxHeartbeats 4000000 in
set_option maxRecDepth 400000 in
theorem t_f_ColumnVault_requireNumbers {sc : (Nat × (Nat → Int32)) × Bool} {d : Nat} (p0 : Nat) (p1 : Int32) (h : zx_H) (r : (Unit ⊕ Nat)) (h' : zx_H) (hf : f_ColumnVault_requireNumbers p0 p1 h = some (r, h')) : zx_T sc (d + 2) 125 (0, [(0, .ref p0), (1, .int p1)], []) h (zf_oVx r) h' := by
  unfold f_ColumnVault_requireNumbers at hf
  refine zv_p (k := 2) (f' := (2, [(0, .ref p0), (1, .int p1)], [.int p1, .ref p0])) zq_125 zo_125 (by with_unfolding_all rfl) ?_
  replace hf := zf_be hf
  obtain ⟨_, ho, hf⟩ := hf
  replace hf := zf_b2e hf
  obtain ⟨v1, h2, hv, hf⟩ := hf
  refine zv_c zq_125 zo_125 rfl rfl rfl rfl rfl (zv_cv rfl rfl rfl (zf_ise ho) rfl) (t_f_Sheet_kindOf _ _ _ _ _ hv) ?_
  replace hf := zf_ite hf
  obtain ⟨hc, hf⟩ | ⟨hc, hf⟩ := hf
  · refine zv_brT (off := 14) (tt := 19) (r := []) zq_125 zo_125 hc rfl rfl rfl ?_
    cases hf
    exact zv_r zq_125 zo_125 rfl rfl rfl rfl rfl
  · refine zv_brF (off := 14) (tt := 19) (r := []) zq_125 zo_125 hc rfl rfl rfl ?_
    replace hf := zf_ite hf
    obtain ⟨hc, hf⟩ | ⟨hc, hf⟩ := hf
    · cases hf; exact zv_tw zq_125 zo_125 rfl rfl rfl rfl rfl rfl rfl rfl rfl hc
    · cases hf
/-! ColumnVault$Sheet.rowsUpTo (I)J -/
noncomputable def zI_126 : zd_T := [[(0, .lconst 0, 1), (1, .lstore_n 2, 1), (2, .iconst 0, 1), (3, .istore 4, 2), (5, .iload 4, 2), (7, .iload_n 1, 1), (8, .if_icmp .gt 30, 3), (11, .iload 4, 2), (13, .aload_n 0, 1), (14, .getfield 26, 3), (17, .if_icmp .ge 21, 3), (20, .lload_n 2, 1), (21, .lconst 1, 1), (22, .aload_n 0, 1), (23, .getfield 19, 3), (26, .iload 4, 2), (28, .iaload, 1), (29, .lshl, 1), (30, .lor, 1), (31, .lstore_n 2, 1)], [(32, .iinc 4 1, 3), (35, .goto (-30), 3), (38, .lload_n 2, 1), (39, .lreturn, 1)]]
theorem zo_126 : zd_of 126 = some zI_126 := rfl
set_option maxRecDepth 100000 in
theorem zq_126 : zt_m[126]? = some (⟨"ColumnVault$Sheet", "rowsUpTo", "(I)J"⟩, prog_10_method_21_code, 5, some (.long), [], 10, 1, 0, 0, 0, 0) := rfl
set_option maxHeartbeats 1000000 in
def f_Sheet_rowsUpTo_5 : Nat → Nat → Int32 → Int64 → Int32 → zx_H → Option (Int64 × zx_H)
  | 0, _, _, _, _, _ => none
  | n + 1, p0, p1, p2, p3, h =>
    if p1 < p3 then
      some (p2, h)
    else
      zf_b (zf_I 10 4 p0 h) fun v1 =>
      if v1 ≤ p3 then
        some (p2, h)
      else
        zf_b (zf_A 10 2 p0 h) fun v2 =>
        zf_b (zf_ldI v2 p3 h) fun v3 =>
        (f_Sheet_rowsUpTo_5 n) p0 p1 (p2 ||| ((1 : Int64) <<< ((v3).toInt64 &&& 63))) (p3 + (1 : Int32)) h
set_option maxHeartbeats 4000000 in
set_option maxRecDepth 400000 in
theorem t_f_Sheet_rowsUpTo_5 {sc : (Nat × (Nat → Int32)) × Bool} {d : Nat} : ∀ (n : Nat) (p0 : Nat) (p1 : Int32) (p2 : Int64) (p3 : Int32) (h : zx_H) (r : Int64) (h' : zx_H), f_Sheet_rowsUpTo_5 n p0 p1 p2 p3 h = some (r, h') → zx_T sc d 126 (5, [(0, .ref p0), (1, .int p1), (2, .long p2), (4, .int p3)], []) h (zf_oJ r) h' := by
  intro n
  induction n with
  | zero => intro p0 p1 p2 p3 h r h' hf; cases hf
  | succ n ih =>
    intro p0 p1 p2 p3 h r h' hf
    unfold f_Sheet_rowsUpTo_5 at hf
    refine zv_p (k := 2) (f' := (8, [(0, .ref p0), (1, .int p1), (2, .long p2), (4, .int p3)], [.int p1, .int p3])) zq_126 zo_126 (by with_unfolding_all rfl) ?_
    replace hf := zf_ite hf
    obtain ⟨hc, hf⟩ | ⟨hc, hf⟩ := hf
    · refine zv_brT (off := 30) (tt := 38) (r := []) zq_126 zo_126 hc rfl rfl rfl ?_
      refine zv_p (k := 1) (f' := (39, [(0, .ref p0), (1, .int p1), (2, .long p2), (4, .int p3)], [.long p2])) zq_126 zo_126 (by with_unfolding_all rfl) ?_
      cases hf
      exact zv_r zq_126 zo_126 rfl rfl rfl rfl rfl
    · refine zv_brF (off := 30) (tt := 38) (r := []) zq_126 zo_126 hc rfl rfl rfl ?_
      refine zv_p (k := 2) (f' := (14, [(0, .ref p0), (1, .int p1), (2, .long p2), (4, .int p3)], [.ref p0, .int p3])) zq_126 zo_126 (by with_unfolding_all rfl) ?_
      replace hf := zf_be hf
      obtain ⟨v1, hv, hf⟩ := hf
      refine zv_gf zq_126 zo_126 rfl rfl rfl (zf_Ie hv) ?_
      replace hf := zf_ite hf
      obtain ⟨hc, hf⟩ | ⟨hc, hf⟩ := hf
      · refine zv_brT (off := 21) (tt := 38) (r := []) zq_126 zo_126 hc rfl rfl rfl ?_
        refine zv_p (k := 1) (f' := (39, [(0, .ref p0), (1, .int p1), (2, .long p2), (4, .int p3)], [.long p2])) zq_126 zo_126 (by with_unfolding_all rfl) ?_
        cases hf
        exact zv_r zq_126 zo_126 rfl rfl rfl rfl rfl
      · refine zv_brF (off := 21) (tt := 38) (r := []) zq_126 zo_126 hc rfl rfl rfl ?_
        refine zv_p (k := 3) (f' := (23, [(0, .ref p0), (1, .int p1), (2, .long p2), (4, .int p3)], [.ref p0, .long (1 : Int64), .long p2])) zq_126 zo_126 (by with_unfolding_all rfl) ?_
        replace hf := zf_be hf
        obtain ⟨v2, hv, hf⟩ := hf
        refine zv_gf zq_126 zo_126 rfl rfl rfl (zf_Ae hv) ?_
        refine zv_p (k := 1) (f' := (28, [(0, .ref p0), (1, .int p1), (2, .long p2), (4, .int p3)], [.int p3, .ref v2, .long (1 : Int64), .long p2])) zq_126 zo_126 (by with_unfolding_all rfl) ?_
        replace hf := zf_be hf
        obtain ⟨v3, hv, hf⟩ := hf
        refine zv_ldI zq_126 zo_126 rfl hv ?_
        refine zv_p (k := 5) (f' := (5, [(4, .int (p3 + (1 : Int32))), (2, .long (p2 ||| ((1 : Int64) <<< ((v3).toInt64 &&& 63)))), (0, .ref p0), (1, .int p1)], [])) zq_126 zo_126 (by with_unfolding_all rfl) ?_
        refine zv_pick (lv' := [(0, .ref p0), (1, .int p1), (2, .long (p2 ||| ((1 : Int64) <<< ((v3).toInt64 &&& 63)))), (4, .int (p3 + (1 : Int32)))]) [0, 1, 2, 4] rfl rfl ?_
        exact ih _ _ _ _ _ _ _ hf
set_option maxHeartbeats 1000000 in
def f_Sheet_rowsUpTo (p0 : Nat) (p1 : Int32) (h : zx_H) : Option (Int64 × zx_H) :=
  f_Sheet_rowsUpTo_5 zF p0 p1 (0 : Int64) (0 : Int32) h
set_option maxHeartbeats 4000000 in
set_option maxRecDepth 400000 in
theorem t_f_Sheet_rowsUpTo {sc : (Nat × (Nat → Int32)) × Bool} {d : Nat} (p0 : Nat) (p1 : Int32) (h : zx_H) (r : Int64) (h' : zx_H) (hf : f_Sheet_rowsUpTo p0 p1 h = some (r, h')) : zx_T sc d 126 (0, [(0, .ref p0), (1, .int p1)], []) h (zf_oJ r) h' := by
  unfold f_Sheet_rowsUpTo at hf
  refine zv_p (k := 4) (f' := (5, [(4, .int (0 : Int32)), (2, .long (0 : Int64)), (0, .ref p0), (1, .int p1)], [])) zq_126 zo_126 (by with_unfolding_all rfl) ?_
  refine zv_pick (lv' := [(0, .ref p0), (1, .int p1), (2, .long (0 : Int64)), (4, .int (0 : Int32))]) [0, 1, 2, 4] rfl rfl ?_
  exact t_f_Sheet_rowsUpTo_5 zF _ _ _ _ _ _ _ hf
/-! ColumnVault.running (III)J -/
noncomputable def zI_124 : zd_T := [[(0, .aload_n 0, 1), (1, .iload_n 1, 1), (2, .iload_n 2, 1), (3, .invokevirtual 91, 3), (6, .astore 4, 2), (8, .aload 4, 2), (10, .iload_n 3, 1), (11, .invokestatic 169, 3), (14, .aload 4, 2), (16, .iload_n 2, 1), (17, .invokestatic 301, 3), (20, .aload 4, 2), (22, .iload_n 2, 1), (23, .aload 4, 2), (25, .iload_n 3, 1), (26, .invokevirtual 304, 3), (29, .invokevirtual 307, 3)], [(32, .lreturn, 1)]]
theorem zo_124 : zd_of 124 = some zI_124 := rfl
set_option maxRecDepth 100000 in
theorem zq_124 : zt_m[124]? = some (⟨"ColumnVault", "running", "(III)J"⟩, prog_1_method_32_code, 5, some (.long), [], 12, 3, 0, 0, 0, 0) := rfl
