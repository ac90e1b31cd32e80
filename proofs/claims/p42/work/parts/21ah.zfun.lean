set_option maxHeartbeats 1000000 in
def f_Tokens_readWord_5 : Nat → Nat → Nat → Int32 → Int64 → Int32 → zx_H → Option (Int32 × zx_H)
  | 0, _, _, _, _, _, _ => none
  | n + 1, p0, p1, p2, p3, p4, h =>
    zf_b (zf_I 4 1 p1 h) fun v1 =>
    if v1 ≤ p4 then
      f_Tokens_readWord_45 p0 p2 p3 p4 h
    else
      zf_b (zf_is 4 p1 h) fun _ =>
      zf_b2 (f_FilterText_byteAt p1 p4 h) fun v2 h3 =>
      zf_b2 (f_ColumnVault_isLetter v2 h3) fun v4 h5 =>
      if v4 = 0 then
        f_Tokens_readWord_45 p0 p2 p3 p4 h5
      else
        zf_b (zf_is 4 p1 h5) fun _ =>
        zf_b2 (f_FilterText_byteAt p1 p4 h5) fun v6 h7 =>
        (f_Tokens_readWord_5 n) p0 p1 p2 ((p3 <<< (((8 : Int32)).toInt64 &&& 63)) ||| (v6).toInt64) (p4 + (1 : Int32)) h7
set_option maxHeartbeats 4000000 in
set_option maxRecDepth 400000 in
theorem t_f_Tokens_readWord_5 {sc : (Nat × (Nat → Int32)) × Bool} {d : Nat} : ∀ (n : Nat) (p0 : Nat) (p1 : Nat) (p2 : Int32) (p3 : Int64) (p4 : Int32) (h : zx_H) (r : Int32) (h' : zx_H), f_Tokens_readWord_5 n p0 p1 p2 p3 p4 h = some (r, h') → zx_T sc (d + 1) 61 (5, [(0, .ref p0), (1, .ref p1), (2, .int p2), (3, .long p3), (5, .int p4)], []) h (zf_oI r) h' := by
  intro n
  induction n with
  | zero => intro p0 p1 p2 p3 p4 h r h' hf; cases hf
  | succ n ih =>
    intro p0 p1 p2 p3 p4 h r h' hf
    unfold f_Tokens_readWord_5 at hf
    refine zv_p (k := 2) (f' := (8, [(0, .ref p0), (1, .ref p1), (2, .int p2), (3, .long p3), (5, .int p4)], [.ref p1, .int p4])) zq_61 zo_61 (by with_unfolding_all rfl) ?_
    replace hf := zf_be hf
    obtain ⟨v1, hv, hf⟩ := hf
    refine zv_gf zq_61 zo_61 rfl rfl rfl (zf_Ie hv) ?_
    replace hf := zf_ite hf
    obtain ⟨hc, hf⟩ | ⟨hc, hf⟩ := hf
    · refine zv_brT (off := 34) (tt := 45) (r := []) zq_61 zo_61 hc rfl rfl rfl ?_
      refine zv_pick (lv' := [(0, .ref p0), (2, .int p2), (3, .long p3), (5, .int p4)]) [0, 2, 3, 5] rfl rfl ?_
      exact t_f_Tokens_readWord_45 _ _ _ _ _ _ _ hf
    · refine zv_brF (off := 34) (tt := 45) (r := []) zq_61 zo_61 hc rfl rfl rfl ?_
      refine zv_p (k := 2) (f' := (17, [(0, .ref p0), (1, .ref p1), (2, .int p2), (3, .long p3), (5, .int p4)], [.int p4, .ref p1])) zq_61 zo_61 (by with_unfolding_all rfl) ?_
      replace hf := zf_be hf
      obtain ⟨_, ho, hf⟩ := hf
      replace hf := zf_b2e hf
      obtain ⟨v2, h3, hv, hf⟩ := hf
      refine zv_c zq_61 zo_61 rfl rfl rfl rfl rfl (zv_cv rfl rfl rfl (zf_ise ho) rfl) (t_f_FilterText_byteAt _ _ _ _ _ hv) ?_
      replace hf := zf_b2e hf
      obtain ⟨v4, h5, hv, hf⟩ := hf
      refine zv_c zq_61 zo_61 rfl rfl rfl rfl rfl rfl (t_f_ColumnVault_isLetter _ _ _ _ hv) ?_
      replace hf := zf_ite hf
      obtain ⟨hc, hf⟩ | ⟨hc, hf⟩ := hf
      · refine zv_brT (off := 22) (tt := 45) (r := []) zq_61 zo_61 hc rfl rfl rfl ?_
        refine zv_pick (lv' := [(0, .ref p0), (2, .int p2), (3, .long p3), (5, .int p4)]) [0, 2, 3, 5] rfl rfl ?_
        exact t_f_Tokens_readWord_45 _ _ _ _ _ _ _ hf
      · refine zv_brF (off := 22) (tt := 45) (r := []) zq_61 zo_61 hc rfl rfl rfl ?_
        refine zv_p (k := 5) (f' := (33, [(0, .ref p0), (1, .ref p1), (2, .int p2), (3, .long p3), (5, .int p4)], [.int p4, .ref p1, .long (p3 <<< (((8 : Int32)).toInt64 &&& 63))])) zq_61 zo_61 (by with_unfolding_all rfl) ?_
        replace hf := zf_be hf
        obtain ⟨_, ho, hf⟩ := hf
        replace hf := zf_b2e hf
        obtain ⟨v6, h7, hv, hf⟩ := hf
        refine zv_c zq_61 zo_61 rfl rfl rfl rfl rfl (zv_cv rfl rfl rfl (zf_ise ho) rfl) (t_f_FilterText_byteAt _ _ _ _ _ hv) ?_
        refine zv_p (k := 5) (f' := (5, [(5, .int (p4 + (1 : Int32))), (3, .long ((p3 <<< (((8 : Int32)).toInt64 &&& 63)) ||| (v6).toInt64)), (0, .ref p0), (1, .ref p1), (2, .int p2)], [])) zq_61 zo_61 (by with_unfolding_all rfl) ?_
        refine zv_pick (lv' := [(0, .ref p0), (1, .ref p1), (2, .int p2), (3, .long ((p3 <<< (((8 : Int32)).toInt64 &&& 63)) ||| (v6).toInt64)), (5, .int (p4 + (1 : Int32)))]) [0, 1, 2, 3, 5] rfl rfl ?_
        exact ih _ _ _ _ _ _ _ _ hf
set_option maxHeartbeats 1000000 in
def f_Tokens_readWord (p0 : Nat) (p1 : Nat) (p2 : Int32) (h : zx_H) : Option (Int32 × zx_H) :=
  f_Tokens_readWord_5 zF p0 p1 p2 (0 : Int64) p2 h
set_option maxHeartbeats 4000000 in
set_option maxRecDepth 400000 in
theorem t_f_Tokens_readWord {sc : (Nat × (Nat → Int32)) × Bool} {d : Nat} (p0 : Nat) (p1 : Nat) (p2 : Int32) (h : zx_H) (r : Int32) (h' : zx_H) (hf : f_Tokens_readWord p0 p1 p2 h = some (r, h')) : zx_T sc (d + 1) 61 (0, [(0, .ref p0), (1, .ref p1), (2, .int p2)], []) h (zf_oI r) h' := by
  unfold f_Tokens_readWord at hf
  refine zv_p (k := 4) (f' := (5, [(5, .int p2), (3, .long (0 : Int64)), (0, .ref p0), (1, .ref p1), (2, .int p2)], [])) zq_61 zo_61 (by with_unfolding_all rfl) ?_
  refine zv_pick (lv' := [(0, .ref p0), (1, .ref p1), (2, .int p2), (3, .long (0 : Int64)), (5, .int p2)]) [0, 1, 2, 3, 5] rfl rfl ?_
  exact t_f_Tokens_readWord_5 zF _ _ _ _ _ _ _ _ hf
/-! ColumnVault$Tokens.readNumber (LColumnVault$FilterText;I)I -/
noncomputable def zI_62 : zd_T := [[(0, .aload_n 1, 1), (1, .iload_n 2, 1), (2, .invokevirtual 31, 3), (5, .bipush 45, 2), (7, .if_icmp .ne 7, 3), (10, .iconst 1, 1), (11, .goto 4, 3), (14, .iconst 0, 1), (15, .istore_n 3, 1), (16, .lconst 0, 1), (17, .lstore 4, 2), (19, .iload_n 3, 1), (20, .ifCond .eq 9, 3), (23, .iload_n 2, 1), (24, .iconst 1, 1), (25, .iadd, 1), (26, .goto 4, 3), (29, .iload_n 2, 1), (30, .istore 6, 2)], [(32, .iload 6, 2), (34, .aload_n 1, 1), (35, .getfield 26, 3), (38, .if_icmp .ge 47, 3), (41, .aload_n 1, 1), (42, .iload 6, 2), (44, .invokevirtual 31, 3), (47, .invokestatic 51, 3), (50, .ifCond .eq 35, 3), (53, .lload 4, 2), (55, .ldc2_w 66, 3), (58, .lmul, 1), (59, .aload_n 1, 1), (60, .iload 6, 2), (62, .invokevirtual 31, 3)], [(65, .i2l, 1), (66, .ladd, 1), (67, .ldc2_w 68, 3), (70, .lsub, 1), (71, .ldc2_w 70, 3), (74, .invokestatic 72, 3), (77, .lstore 4, 2), (79, .iinc 6 1, 3), (82, .goto (-50), 3), (85, .aload_n 0, 1), (86, .bipush 48, 2), (88, .iload_n 2, 1), (89, .lload 4, 2), (91, .ldc2_w 76, 3), (94, .lcmp, 1), (95, .ifCond .le 9, 3)], [(98, .ldc2_w 64, 3), (101, .goto 15, 3), (104, .iload_n 3, 1), (105, .ifCond .eq 9, 3), (108, .lload 4, 2), (110, .lneg, 1), (111, .goto 5, 3), (114, .lload 4, 2), (116, .invokevirtual 47, 3), (119, .iload 6, 2), (121, .iload_n 2, 1), (122, .isub, 1), (123, .ireturn, 1)]]
theorem zo_62 : zd_of 62 = some zI_62 := rfl
set_option maxRecDepth 100000 in
theorem zq_62 : zt_m[62]? = some (⟨"ColumnVault$Tokens", "readNumber", "(LColumnVault$FilterText;I)I"⟩, prog_11_method_5_code, 7, some (.int), [], 11, 2, 0, 0, 0, 0) := rfl
set_option maxHeartbeats 1000000 in
def f_Tokens_readNumber_85 (p0 : Nat) (p1 : Int32) (p2 : Int32) (p3 : Int64) (p4 : Int32) (h : zx_H) : Option (Int32 × zx_H) :=
  if p3 ≤ (1000000 : Int64) then
    if p2 = 0 then
      zf_b (zf_is 11 p0 h) fun _ =>
      zf_b2 (f_Tokens_put p0 (48 : Int32) p1 p3 h) fun _ h2 =>
      some ((p4 - p1), h2)
    else
      zf_b (zf_is 11 p0 h) fun _ =>
      zf_b2 (f_Tokens_put p0 (48 : Int32) p1 (-p3) h) fun _ h4 =>
      some ((p4 - p1), h4)
  else
    zf_b (zf_is 11 p0 h) fun _ =>
    zf_b2 (f_Tokens_put p0 (48 : Int32) p1 (-9000000000 : Int64) h) fun _ h6 =>
    some ((p4 - p1), h6)
set_option maxHeartbeats 4000000 in
set_option maxRecDepth 400000 in
theorem t_f_Tokens_readNumber_85 {sc : (Nat × (Nat → Int32)) × Bool} {d : Nat} (p0 : Nat) (p1 : Int32) (p2 : Int32) (p3 : Int64) (p4 : Int32) (h : zx_H) (r : Int32) (h' : zx_H) (hf : f_Tokens_readNumber_85 p0 p1 p2 p3 p4 h = some (r, h')) : zx_T sc (d + 1) 62 (85, [(0, .ref p0), (2, .int p1), (3, .int p2), (4, .long p3), (6, .int p4)], []) h (zf_oI r) h' := by
  unfold f_Tokens_readNumber_85 at hf
  refine zv_p (k := 4) (f' := (91, [(0, .ref p0), (2, .int p1), (3, .int p2), (4, .long p3), (6, .int p4)], [.long p3, .int p1, .int (48 : Int32), .ref p0])) zq_62 zo_62 (by with_unfolding_all rfl) ?_
  refine zv_lng zq_62 zo_62 rfl rfl ?_
  refine zv_p (k := 1) (f' := (95, [(0, .ref p0), (2, .int p1), (3, .int p2), (4, .long p3), (6, .int p4)], [.int (lg_cmp p3 (1000000 : Int64)), .int p1, .int (48 : Int32), .ref p0])) zq_62 zo_62 (by with_unfolding_all rfl) ?_
  replace hf := zf_ite hf
  obtain ⟨hc, hf⟩ | ⟨hc, hf⟩ := hf
  · refine zv_brT (off := 9) (tt := 104) (r := [.int p1, .int (48 : Int32), .ref p0]) zq_62 zo_62 (zl_le.mpr hc) rfl rfl rfl ?_
    refine zv_p (k := 1) (f' := (105, [(0, .ref p0), (2, .int p1), (3, .int p2), (4, .long p3), (6, .int p4)], [.int p2, .int p1, .int (48 : Int32), .ref p0])) zq_62 zo_62 (by with_unfolding_all rfl) ?_
    replace hf := zf_ite hf
    obtain ⟨hc, hf⟩ | ⟨hc, hf⟩ := hf
    · refine zv_brT (off := 9) (tt := 114) (r := [.int p1, .int (48 : Int32), .ref p0]) zq_62 zo_62 hc rfl rfl rfl ?_
      refine zv_p (k := 1) (f' := (116, [(0, .ref p0), (2, .int p1), (3, .int p2), (4, .long p3), (6, .int p4)], [.long p3, .int p1, .int (48 : Int32), .ref p0])) zq_62 zo_62 (by with_unfolding_all rfl) ?_
      replace hf := zf_be hf
      obtain ⟨_, ho, hf⟩ := hf
      replace hf := zf_b2e hf
      obtain ⟨v1, h2, hv, hf⟩ := hf
      refine zv_c zq_62 zo_62 rfl rfl rfl rfl rfl (zv_cv rfl rfl rfl (zf_ise ho) rfl) (t_f_Tokens_put _ _ _ _ _ _ _ hv) ?_
      refine zv_p (k := 3) (f' := (123, [(0, .ref p0), (2, .int p1), (3, .int p2), (4, .long p3), (6, .int p4)], [.int (p4 - p1)])) zq_62 zo_62 (by with_unfolding_all rfl) ?_
      cases hf
      exact zv_rn zq_62 zo_62 rfl rfl
    · refine zv_brF (off := 9) (tt := 114) (r := [.int p1, .int (48 : Int32), .ref p0]) zq_62 zo_62 hc rfl rfl rfl ?_
      refine zv_p (k := 3) (f' := (116, [(0, .ref p0), (2, .int p1), (3, .int p2), (4, .long p3), (6, .int p4)], [.long (-p3), .int p1, .int (48 : Int32), .ref p0])) zq_62 zo_62 (by with_unfolding_all rfl) ?_
      replace hf := zf_be hf
      obtain ⟨_, ho, hf⟩ := hf
      replace hf := zf_b2e hf
      obtain ⟨v3, h4, hv, hf⟩ := hf
      refine zv_c zq_62 zo_62 rfl rfl rfl rfl rfl (zv_cv rfl rfl rfl (zf_ise ho) rfl) (t_f_Tokens_put _ _ _ _ _ _ _ hv) ?_
      refine zv_p (k := 3) (f' := (123, [(0, .ref p0), (2, .int p1), (3, .int p2), (4, .long p3), (6, .int p4)], [.int (p4 - p1)])) zq_62 zo_62 (by with_unfolding_all rfl) ?_
      cases hf
      exact zv_rn zq_62 zo_62 rfl rfl
  · refine zv_brF (off := 9) (tt := 104) (r := [.int p1, .int (48 : Int32), .ref p0]) zq_62 zo_62 (mt zl_le.mp hc) rfl rfl rfl ?_
    refine zv_lng zq_62 zo_62 rfl rfl ?_
    refine zv_p (k := 1) (f' := (116, [(0, .ref p0), (2, .int p1), (3, .int p2), (4, .long p3), (6, .int p4)], [.long (-9000000000 : Int64), .int p1, .int (48 : Int32), .ref p0])) zq_62 zo_62 (by with_unfolding_all rfl) ?_
    replace hf := zf_be hf
    obtain ⟨_, ho, hf⟩ := hf
    replace hf := zf_b2e hf
    obtain ⟨v5, h6, hv, hf⟩ := hf
    refine zv_c zq_62 zo_62 rfl rfl rfl rfl rfl (zv_cv rfl rfl rfl (zf_ise ho) rfl) (t_f_Tokens_put _ _ _ _ _ _ _ hv) ?_
    refine zv_p (k := 3) (f' := (123, [(0, .ref p0), (2, .int p1), (3, .int p2), (4, .long p3), (6, .int p4)], [.int (p4 - p1)])) zq_62 zo_62 (by with_unfolding_all rfl) ?_
    cases hf
    exact zv_rn zq_62 zo_62 rfl rfl
set_option maxHeartbeats 1000000 in
def f_Tokens_readNumber_32 : Nat → Nat → Nat → Int32 → Int32 → Int64 → Int32 → zx_H → Option (Int32 × zx_H)
  | 0, _, _, _, _, _, _, _ => none
  | n + 1, p0, p1, p2, p3, p4, p5, h =>
    zf_b (zf_I 4 1 p1 h) fun v1 =>
    if v1 ≤ p5 then
      f_Tokens_readNumber_85 p0 p2 p3 p4 p5 h
    else
      zf_b (zf_is 4 p1 h) fun _ =>
      zf_b2 (f_FilterText_byteAt p1 p5 h) fun v2 h3 =>
      zf_b2 (f_ColumnVault_isDigit v2 h3) fun v4 h5 =>
      if v4 = 0 then
        f_Tokens_readNumber_85 p0 p2 p3 p4 p5 h5
      else
        zf_b (zf_is 4 p1 h5) fun _ =>
        zf_b2 (f_FilterText_byteAt p1 p5 h5) fun v6 h7 =>
        (f_Tokens_readNumber_32 n) p0 p1 p2 p3 (if (1000001 : Int64) < (((p4 * (10 : Int64)) + (v6).toInt64) - (48 : Int64)) then (1000001 : Int64) else (((p4 * (10 : Int64)) + (v6).toInt64) - (48 : Int64))) (p5 + (1 : Int32)) h7
set_option maxHeartbeats 4000000 in
set_option maxRecDepth 400000 in
theorem t_f_Tokens_readNumber_32 {sc : (Nat × (Nat → Int32)) × Bool} {d : Nat} : ∀ (n : Nat) (p0 : Nat) (p1 : Nat) (p2 : Int32) (p3 : Int32) (p4 : Int64) (p5 : Int32) (h : zx_H) (r : Int32) (h' : zx_H), f_Tokens_readNumber_32 n p0 p1 p2 p3 p4 p5 h = some (r, h') → zx_T sc (d + 1) 62 (32, [(0, .ref p0), (1, .ref p1), (2, .int p2), (3, .int p3), (4, .long p4), (6, .int p5)], []) h (zf_oI r) h' := by
  intro n
  induction n with
  | zero => intro p0 p1 p2 p3 p4 p5 h r h' hf; cases hf
  | succ n ih =>
    intro p0 p1 p2 p3 p4 p5 h r h' hf
    unfold f_Tokens_readNumber_32 at hf
    refine zv_p (k := 2) (f' := (35, [(0, .ref p0), (1, .ref p1), (2, .int p2), (3, .int p3), (4, .long p4), (6, .int p5)], [.ref p1, .int p5])) zq_62 zo_62 (by with_unfolding_all rfl) ?_
    replace hf := zf_be hf
    obtain ⟨v1, hv, hf⟩ := hf
    refine zv_gf zq_62 zo_62 rfl rfl rfl (zf_Ie hv) ?_
    replace hf := zf_ite hf
    obtain ⟨hc, hf⟩ | ⟨hc, hf⟩ := hf
    · refine zv_brT (off := 47) (tt := 85) (r := []) zq_62 zo_62 hc rfl rfl rfl ?_
      refine zv_pick (lv' := [(0, .ref p0), (2, .int p2), (3, .int p3), (4, .long p4), (6, .int p5)]) [0, 2, 3, 4, 6] rfl rfl ?_
      exact t_f_Tokens_readNumber_85 _ _ _ _ _ _ _ _ hf
    · refine zv_brF (off := 47) (tt := 85) (r := []) zq_62 zo_62 hc rfl rfl rfl ?_
      refine zv_p (k := 2) (f' := (44, [(0, .ref p0), (1, .ref p1), (2, .int p2), (3, .int p3), (4, .long p4), (6, .int p5)], [.int p5, .ref p1])) zq_62 zo_62 (by with_unfolding_all rfl) ?_
      replace hf := zf_be hf
      obtain ⟨_, ho, hf⟩ := hf
      replace hf := zf_b2e hf
      obtain ⟨v2, h3, hv, hf⟩ := hf
      refine zv_c zq_62 zo_62 rfl rfl rfl rfl rfl (zv_cv rfl rfl rfl (zf_ise ho) rfl) (t_f_FilterText_byteAt _ _ _ _ _ hv) ?_
      replace hf := zf_b2e hf
      obtain ⟨v4, h5, hv, hf⟩ := hf
      refine zv_c zq_62 zo_62 rfl rfl rfl rfl rfl rfl (t_f_ColumnVault_isDigit _ _ _ _ hv) ?_
      replace hf := zf_ite hf
      obtain ⟨hc, hf⟩ | ⟨hc, hf⟩ := hf
      · refine zv_brT (off := 35) (tt := 85) (r := []) zq_62 zo_62 hc rfl rfl rfl ?_
        refine zv_pick (lv' := [(0, .ref p0), (2, .int p2), (3, .int p3), (4, .long p4), (6, .int p5)]) [0, 2, 3, 4, 6] rfl rfl ?_
        exact t_f_Tokens_readNumber_85 _ _ _ _ _ _ _ _ hf
      · refine zv_brF (off := 35) (tt := 85) (r := []) zq_62 zo_62 hc rfl rfl rfl ?_
        refine zv_p (k := 1) (f' := (55, [(0, .ref p0), (1, .ref p1), (2, .int p2), (3, .int p3), (4, .long p4), (6, .int p5)], [.long p4])) zq_62 zo_62 (by with_unfolding_all rfl) ?_
        refine zv_lng zq_62 zo_62 rfl rfl ?_
        refine zv_p (k := 3) (f' := (62, [(0, .ref p0), (1, .ref p1), (2, .int p2), (3, .int p3), (4, .long p4), (6, .int p5)], [.int p5, .ref p1, .long (p4 * (10 : Int64))])) zq_62 zo_62 (by with_unfolding_all rfl) ?_
        replace hf := zf_be hf
        obtain ⟨_, ho, hf⟩ := hf
        replace hf := zf_b2e hf
        obtain ⟨v6, h7, hv, hf⟩ := hf
        refine zv_c zq_62 zo_62 rfl rfl rfl rfl rfl (zv_cv rfl rfl rfl (zf_ise ho) rfl) (t_f_FilterText_byteAt _ _ _ _ _ hv) ?_
        refine zv_p (k := 2) (f' := (67, [(0, .ref p0), (1, .ref p1), (2, .int p2), (3, .int p3), (4, .long p4), (6, .int p5)], [.long ((p4 * (10 : Int64)) + (v6).toInt64)])) zq_62 zo_62 (by with_unfolding_all rfl) ?_
        refine zv_lng zq_62 zo_62 rfl rfl ?_
        refine zv_p (k := 1) (f' := (71, [(0, .ref p0), (1, .ref p1), (2, .int p2), (3, .int p3), (4, .long p4), (6, .int p5)], [.long (((p4 * (10 : Int64)) + (v6).toInt64) - (48 : Int64))])) zq_62 zo_62 (by with_unfolding_all rfl) ?_
        refine zv_lng zq_62 zo_62 rfl rfl ?_
        refine zv_mm2 zq_62 zo_62 rfl rfl rfl ?_
        refine zv_p (k := 3) (f' := (32, [(6, .int (p5 + (1 : Int32))), (4, .long (if (1000001 : Int64) < (((p4 * (10 : Int64)) + (v6).toInt64) - (48 : Int64)) then (1000001 : Int64) else (((p4 * (10 : Int64)) + (v6).toInt64) - (48 : Int64)))), (0, .ref p0), (1, .ref p1), (2, .int p2), (3, .int p3)], [])) zq_62 zo_62 (by with_unfolding_all rfl) ?_
        refine zv_pick (lv' := [(0, .ref p0), (1, .ref p1), (2, .int p2), (3, .int p3), (4, .long (if (1000001 : Int64) < (((p4 * (10 : Int64)) + (v6).toInt64) - (48 : Int64)) then (1000001 : Int64) else (((p4 * (10 : Int64)) + (v6).toInt64) - (48 : Int64)))), (6, .int (p5 + (1 : Int32)))]) [0, 1, 2, 3, 4, 6] rfl rfl ?_
        exact ih _ _ _ _ _ _ _ _ _ hf
set_option maxHeartbeats 1000000 in
def f_Tokens_readNumber_15 (p0 : Nat) (p1 : Nat) (p2 : Int32) (p3 : Int32) (h : zx_H) : Option (Int32 × zx_H) :=
  if p3 = 0 then
    f_Tokens_readNumber_32 zF p0 p1 p2 p3 (0 : Int64) p2 h
  else
    f_Tokens_readNumber_32 zF p0 p1 p2 p3 (0 : Int64) (p2 + (1 : Int32)) h
set_option maxHeartbeats 4000000 in
set_option maxRecDepth 400000 in
theorem t_f_Tokens_readNumber_15 {sc : (Nat × (Nat → Int32)) × Bool} {d : Nat} (p0 : Nat) (p1 : Nat) (p2 : Int32) (p3 : Int32) (h : zx_H) (r : Int32) (h' : zx_H) (hf : f_Tokens_readNumber_15 p0 p1 p2 p3 h = some (r, h')) : zx_T sc (d + 1) 62 (15, [(0, .ref p0), (1, .ref p1), (2, .int p2)], [.int p3]) h (zf_oI r) h' := by
  unfold f_Tokens_readNumber_15 at hf
  refine zv_p (k := 4) (f' := (20, [(4, .long (0 : Int64)), (3, .int p3), (0, .ref p0), (1, .ref p1), (2, .int p2)], [.int p3])) zq_62 zo_62 (by with_unfolding_all rfl) ?_
  replace hf := zf_ite hf
  obtain ⟨hc, hf⟩ | ⟨hc, hf⟩ := hf
  · refine zv_brT (off := 9) (tt := 29) (r := []) zq_62 zo_62 hc rfl rfl rfl ?_
    refine zv_p (k := 2) (f' := (32, [(6, .int p2), (4, .long (0 : Int64)), (3, .int p3), (0, .ref p0), (1, .ref p1), (2, .int p2)], [])) zq_62 zo_62 (by with_unfolding_all rfl) ?_
    refine zv_pick (lv' := [(0, .ref p0), (1, .ref p1), (2, .int p2), (3, .int p3), (4, .long (0 : Int64)), (6, .int p2)]) [0, 1, 2, 3, 4, 6] rfl rfl ?_
    exact t_f_Tokens_readNumber_32 zF _ _ _ _ _ _ _ _ _ hf
  · refine zv_brF (off := 9) (tt := 29) (r := []) zq_62 zo_62 hc rfl rfl rfl ?_
    refine zv_p (k := 5) (f' := (32, [(6, .int (p2 + (1 : Int32))), (4, .long (0 : Int64)), (3, .int p3), (0, .ref p0), (1, .ref p1), (2, .int p2)], [])) zq_62 zo_62 (by with_unfolding_all rfl) ?_
    refine zv_pick (lv' := [(0, .ref p0), (1, .ref p1), (2, .int p2), (3, .int p3), (4, .long (0 : Int64)), (6, .int (p2 + (1 : Int32)))]) [0, 1, 2, 3, 4, 6] rfl rfl ?_
    exact t_f_Tokens_readNumber_32 zF _ _ _ _ _ _ _ _ _ hf
set_option maxHeartbeats 1000000 in
def f_Tokens_readNumber (p0 : Nat) (p1 : Nat) (p2 : Int32) (h : zx_H) : Option (Int32 × zx_H) :=
  zf_b (zf_is 4 p1 h) fun _ =>
  zf_b2 (f_FilterText_byteAt p1 p2 h) fun v1 h2 =>
  if ¬ v1 = (45 : Int32) then
    f_Tokens_readNumber_15 p0 p1 p2 (0 : Int32) h2
  else
    f_Tokens_readNumber_15 p0 p1 p2 (1 : Int32) h2
set_option maxHeartbeats 4000000 in
set_option maxRecDepth 400000 in
theorem t_f_Tokens_readNumber {sc : (Nat × (Nat → Int32)) × Bool} {d : Nat} (p0 : Nat) (p1 : Nat) (p2 : Int32) (h : zx_H) (r : Int32) (h' : zx_H) (hf : f_Tokens_readNumber p0 p1 p2 h = some (r, h')) : zx_T sc (d + 1) 62 (0, [(0, .ref p0), (1, .ref p1), (2, .int p2)], []) h (zf_oI r) h' := by
  unfold f_Tokens_readNumber at hf
  refine zv_p (k := 2) (f' := (2, [(0, .ref p0), (1, .ref p1), (2, .int p2)], [.int p2, .ref p1])) zq_62 zo_62 (by with_unfolding_all rfl) ?_
  replace hf := zf_be hf
  obtain ⟨_, ho, hf⟩ := hf
  replace hf := zf_b2e hf
  obtain ⟨v1, h2, hv, hf⟩ := hf
  refine zv_c zq_62 zo_62 rfl rfl rfl rfl rfl (zv_cv rfl rfl rfl (zf_ise ho) rfl) (t_f_FilterText_byteAt _ _ _ _ _ hv) ?_
  refine zv_p (k := 1) (f' := (7, [(0, .ref p0), (1, .ref p1), (2, .int p2)], [.int (45 : Int32), .int v1])) zq_62 zo_62 (by with_unfolding_all rfl) ?_
  replace hf := zf_ite hf
  obtain ⟨hc, hf⟩ | ⟨hc, hf⟩ := hf
  · refine zv_brT (off := 7) (tt := 14) (r := []) zq_62 zo_62 hc rfl rfl rfl ?_
    refine zv_p (k := 1) (f' := (15, [(0, .ref p0), (1, .ref p1), (2, .int p2)], [.int (0 : Int32)])) zq_62 zo_62 (by with_unfolding_all rfl) ?_
    refine zv_pick (lv' := [(0, .ref p0), (1, .ref p1), (2, .int p2)]) [0, 1, 2] rfl rfl ?_
    exact t_f_Tokens_readNumber_15 _ _ _ _ _ _ _ hf
  · refine zv_brF (off := 7) (tt := 14) (r := []) zq_62 zo_62 hc rfl rfl rfl ?_
    refine zv_p (k := 2) (f' := (15, [(0, .ref p0), (1, .ref p1), (2, .int p2)], [.int (1 : Int32)])) zq_62 zo_62 (by with_unfolding_all rfl) ?_
    refine zv_pick (lv' := [(0, .ref p0), (1, .ref p1), (2, .int p2)]) [0, 1, 2] rfl rfl ?_
    exact t_f_Tokens_readNumber_15 _ _ _ _ _ _ _ hf
/-! ColumnVault$Tokens.readToken (LColumnVault$FilterText;I)I -/
noncomputable def zI_58 : zd_T := [[(0, .aload_n 1, 1), (1, .iload_n 2, 1), (2, .invokevirtual 31, 3), (5, .istore_n 3, 1), (6, .aload_n 1, 1), (7, .iload_n 2, 1), (8, .iconst 1, 1), (9, .iadd, 1), (10, .invokevirtual 31, 3), (13, .istore 4, 2), (15, .iload_n 3, 1), (16, .lookupswitch 136 #[(33, 84), (35, 95), (38, 84), (40, 84), (41, 84), (60, 84), (61, 84), (62, 84), (124, 84)], 84)], [], [], [(100, .aload_n 0, 1), (101, .iload_n 3, 1), (102, .iload_n 2, 1), (103, .ldc2_w 45, 3), (106, .invokevirtual 47, 3), (109, .iconst 1, 1), (110, .ireturn, 1), (111, .aload_n 0, 1), (112, .bipush 35, 2), (114, .iload_n 2, 1), (115, .iload 4, 2), (117, .invokestatic 51, 3), (120, .ifCond .eq 12, 3), (123, .iload 4, 2), (125, .bipush 48, 2), (127, .isub, 1)], [(128, .i2l, 1), (129, .goto 6, 3), (132, .ldc2_w 45, 3), (135, .invokevirtual 47, 3), (138, .iload 4, 2), (140, .invokestatic 51, 3), (143, .ifCond .eq 7, 3), (146, .iconst 2, 1), (147, .goto 4, 3), (150, .iconst 1, 1), (151, .ireturn, 1), (152, .iload_n 3, 1), (153, .invokestatic 55, 3), (156, .ifCond .eq 10, 3), (159, .aload_n 0, 1)], [(160, .aload_n 1, 1), (161, .iload_n 2, 1), (162, .invokevirtual 58, 3), (165, .ireturn, 1), (166, .iload_n 3, 1), (167, .invokestatic 51, 3), (170, .ifCond .ne 17, 3), (173, .iload_n 3, 1), (174, .bipush 45, 2), (176, .if_icmp .ne 18, 3), (179, .iload 4, 2), (181, .invokestatic 51, 3), (184, .ifCond .eq 10, 3), (187, .aload_n 0, 1), (188, .aload_n 1, 1), (189, .iload_n 2, 1), (190, .invokevirtual 61, 3)], [(193, .ireturn, 1), (194, .aload_n 0, 1), (195, .iconst 1, 1), (196, .iload_n 2, 1), (197, .ldc2_w 45, 3), (200, .invokevirtual 47, 3), (203, .iconst 1, 1), (204, .ireturn, 1)]]
theorem zo_58 : zd_of 58 = some zI_58 := rfl
set_option maxRecDepth 100000 in
theorem zq_58 : zt_m[58]? = some (⟨"ColumnVault$Tokens", "readToken", "(LColumnVault$FilterText;I)I"⟩, prog_11_method_3_code, 5, some (.int), [], 11, 2, 0, 0, 0, 0) := rfl
