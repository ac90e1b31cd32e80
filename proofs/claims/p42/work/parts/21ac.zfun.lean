/-! ColumnVault$Sheet.keyAt (II)J -/
noncomputable def zI_16 : zd_T := [[(0, .iload_n 1, 1), (1, .ifCond .lt 37, 3), (4, .iload_n 1, 1), (5, .aload_n 0, 1), (6, .getfield 22, 3), (9, .if_icmp .ge 29, 3), (12, .iload_n 2, 1), (13, .ifCond .lt 25, 3), (16, .iload_n 2, 1), (17, .aload_n 0, 1), (18, .getfield 26, 3), (21, .if_icmp .ge 17, 3), (24, .aload_n 0, 1), (25, .getfield 15, 3), (28, .iload_n 1, 1), (29, .bipush 40, 2), (31, .imul, 1)], [(32, .iload_n 2, 1), (33, .iadd, 1), (34, .laload, 1), (35, .goto 6, 3), (38, .ldc2_w 47, 3), (41, .lreturn, 1)]]
theorem zo_16 : zd_of 16 = some zI_16 := rfl
set_option maxRecDepth 100000 in
theorem zq_16 : zt_m[16]? = some (⟨"ColumnVault$Sheet", "keyAt", "(II)J"⟩, prog_10_method_7_code, 3, some (.long), [], 10, 2, 0, 0, 0, 0) := rfl
set_option maxHeartbeats 1000000 in
def f_Sheet_keyAt (p0 : Nat) (p1 : Int32) (p2 : Int32) (h : zx_H) : Option (Int64 × zx_H) :=
  if p1 < 0 then
    some ((-9000000000 : Int64), h)
  else
    zf_b (zf_I 10 3 p0 h) fun v1 =>
    if v1 ≤ p1 then
      some ((-9000000000 : Int64), h)
    else
      if p2 < 0 then
        some ((-9000000000 : Int64), h)
      else
        zf_b (zf_I 10 4 p0 h) fun v2 =>
        if v2 ≤ p2 then
          some ((-9000000000 : Int64), h)
        else
          zf_b (zf_A 10 1 p0 h) fun v3 =>
          zf_b (zf_ldJ v3 ((p1 * (40 : Int32)) + p2) h) fun v4 =>
          some (v4, h)
set_option maxHeartbeats 4000000 in
set_option maxRecDepth 400000 in
theorem t_f_Sheet_keyAt {sc : (Nat × (Nat → Int32)) × Bool} {d : Nat} (p0 : Nat) (p1 : Int32) (p2 : Int32) (h : zx_H) (r : Int64) (h' : zx_H) (hf : f_Sheet_keyAt p0 p1 p2 h = some (r, h')) : zx_T sc d 16 (0, [(0, .ref p0), (1, .int p1), (2, .int p2)], []) h (zf_oJ r) h' := by
  unfold f_Sheet_keyAt at hf
  refine zv_p (k := 1) (f' := (1, [(0, .ref p0), (1, .int p1), (2, .int p2)], [.int p1])) zq_16 zo_16 (by with_unfolding_all rfl) ?_
  replace hf := zf_ite hf
  obtain ⟨hc, hf⟩ | ⟨hc, hf⟩ := hf
  · refine zv_brT (off := 37) (tt := 38) (r := []) zq_16 zo_16 hc rfl rfl rfl ?_
    refine zv_lng zq_16 zo_16 rfl rfl ?_
    cases hf
    exact zv_r zq_16 zo_16 rfl rfl rfl rfl rfl
  · refine zv_brF (off := 37) (tt := 38) (r := []) zq_16 zo_16 hc rfl rfl rfl ?_
    refine zv_p (k := 2) (f' := (6, [(0, .ref p0), (1, .int p1), (2, .int p2)], [.ref p0, .int p1])) zq_16 zo_16 (by with_unfolding_all rfl) ?_
    replace hf := zf_be hf
    obtain ⟨v1, hv, hf⟩ := hf
    refine zv_gf zq_16 zo_16 rfl rfl rfl (zf_Ie hv) ?_
    replace hf := zf_ite hf
    obtain ⟨hc, hf⟩ | ⟨hc, hf⟩ := hf
    · refine zv_brT (off := 29) (tt := 38) (r := []) zq_16 zo_16 hc rfl rfl rfl ?_
      refine zv_lng zq_16 zo_16 rfl rfl ?_
      cases hf
      exact zv_r zq_16 zo_16 rfl rfl rfl rfl rfl
    · refine zv_brF (off := 29) (tt := 38) (r := []) zq_16 zo_16 hc rfl rfl rfl ?_
      refine zv_p (k := 1) (f' := (13, [(0, .ref p0), (1, .int p1), (2, .int p2)], [.int p2])) zq_16 zo_16 (by with_unfolding_all rfl) ?_
      replace hf := zf_ite hf
      obtain ⟨hc, hf⟩ | ⟨hc, hf⟩ := hf
      · refine zv_brT (off := 25) (tt := 38) (r := []) zq_16 zo_16 hc rfl rfl rfl ?_
        refine zv_lng zq_16 zo_16 rfl rfl ?_
        cases hf
        exact zv_r zq_16 zo_16 rfl rfl rfl rfl rfl
      · refine zv_brF (off := 25) (tt := 38) (r := []) zq_16 zo_16 hc rfl rfl rfl ?_
        refine zv_p (k := 2) (f' := (18, [(0, .ref p0), (1, .int p1), (2, .int p2)], [.ref p0, .int p2])) zq_16 zo_16 (by with_unfolding_all rfl) ?_
        replace hf := zf_be hf
        obtain ⟨v2, hv, hf⟩ := hf
        refine zv_gf zq_16 zo_16 rfl rfl rfl (zf_Ie hv) ?_
        replace hf := zf_ite hf
        obtain ⟨hc, hf⟩ | ⟨hc, hf⟩ := hf
        · refine zv_brT (off := 17) (tt := 38) (r := []) zq_16 zo_16 hc rfl rfl rfl ?_
          refine zv_lng zq_16 zo_16 rfl rfl ?_
          cases hf
          exact zv_r zq_16 zo_16 rfl rfl rfl rfl rfl
        · refine zv_brF (off := 17) (tt := 38) (r := []) zq_16 zo_16 hc rfl rfl rfl ?_
          refine zv_p (k := 1) (f' := (25, [(0, .ref p0), (1, .int p1), (2, .int p2)], [.ref p0])) zq_16 zo_16 (by with_unfolding_all rfl) ?_
          replace hf := zf_be hf
          obtain ⟨v3, hv, hf⟩ := hf
          refine zv_gf zq_16 zo_16 rfl rfl rfl (zf_Ae hv) ?_
          refine zv_p (k := 5) (f' := (34, [(0, .ref p0), (1, .int p1), (2, .int p2)], [.int ((p1 * (40 : Int32)) + p2), .ref v3])) zq_16 zo_16 (by with_unfolding_all rfl) ?_
          replace hf := zf_be hf
          obtain ⟨v4, hv, hf⟩ := hf
          refine zv_ldJ zq_16 zo_16 rfl hv ?_
          refine zv_p (k := 1) (f' := (41, [(0, .ref p0), (1, .int p1), (2, .int p2)], [.long v4])) zq_16 zo_16 (by with_unfolding_all rfl) ?_
          cases hf
          exact zv_r zq_16 zo_16 rfl rfl rfl rfl rfl
/-! ColumnVault$Sheet.rowsFromTo (IJJ)J -/
noncomputable def zI_15 : zd_T := [[(0, .lconst 0, 1), (1, .lstore 6, 2), (3, .iconst 0, 1), (4, .istore 8, 2), (6, .iload 8, 2), (8, .aload_n 0, 1), (9, .getfield 26, 3), (12, .if_icmp .ge 42, 3), (15, .aload_n 0, 1), (16, .iload_n 1, 1), (17, .iload 8, 2), (19, .invokevirtual 52, 3), (22, .lstore 9, 2), (24, .lload 9, 2), (26, .lload_n 2, 1), (27, .lcmp, 1), (28, .ifCond .lt 20, 3), (31, .lload 9, 2)], [(33, .lload 4, 2), (35, .lcmp, 1), (36, .ifCond .gt 12, 3), (39, .lload 6, 2), (41, .lconst 1, 1), (42, .iload 8, 2), (44, .lshl, 1), (45, .lor, 1), (46, .lstore 6, 2), (48, .iinc 8 1, 3), (51, .goto (-45), 3), (54, .lload 6, 2), (56, .lreturn, 1)]]
theorem zo_15 : zd_of 15 = some zI_15 := rfl
set_option maxRecDepth 100000 in
theorem zq_15 : zt_m[15]? = some (⟨"ColumnVault$Sheet", "rowsFromTo", "(IJJ)J"⟩, prog_10_method_25_code, 11, some (.long), [], 10, 3, 0, 0, 0, 0) := rfl
set_option maxHeartbeats 1000000 in
def f_Sheet_rowsFromTo_6 : Nat → Nat → Int32 → Int64 → Int64 → Int64 → Int32 → zx_H → Option (Int64 × zx_H)
  | 0, _, _, _, _, _, _, _ => none
  | n + 1, p0, p1, p2, p3, p4, p5, h =>
    zf_b (zf_I 10 4 p0 h) fun v1 =>
    if v1 ≤ p5 then
      some (p4, h)
    else
      zf_b (zf_is 10 p0 h) fun _ =>
      zf_b2 (f_Sheet_keyAt p0 p1 p5 h) fun v2 h3 =>
      if v2 < p2 then
        (f_Sheet_rowsFromTo_6 n) p0 p1 p2 p3 p4 (p5 + (1 : Int32)) h3
      else
        if p3 < v2 then
          (f_Sheet_rowsFromTo_6 n) p0 p1 p2 p3 p4 (p5 + (1 : Int32)) h3
        else
          (f_Sheet_rowsFromTo_6 n) p0 p1 p2 p3 (p4 ||| ((1 : Int64) <<< ((p5).toInt64 &&& 63))) (p5 + (1 : Int32)) h3
set_option maxHeartbeats 4000000 in
set_option maxRecDepth 400000 in
theorem t_f_Sheet_rowsFromTo_6 {sc : (Nat × (Nat → Int32)) × Bool} {d : Nat} : ∀ (n : Nat) (p0 : Nat) (p1 : Int32) (p2 : Int64) (p3 : Int64) (p4 : Int64) (p5 : Int32) (h : zx_H) (r : Int64) (h' : zx_H), f_Sheet_rowsFromTo_6 n p0 p1 p2 p3 p4 p5 h = some (r, h') → zx_T sc (d + 1) 15 (6, [(0, .ref p0), (1, .int p1), (2, .long p2), (4, .long p3), (6, .long p4), (8, .int p5)], []) h (zf_oJ r) h' := by
  intro n
  induction n with
  | zero => intro p0 p1 p2 p3 p4 p5 h r h' hf; cases hf
  | succ n ih =>
    intro p0 p1 p2 p3 p4 p5 h r h' hf
    unfold f_Sheet_rowsFromTo_6 at hf
    refine zv_p (k := 2) (f' := (9, [(0, .ref p0), (1, .int p1), (2, .long p2), (4, .long p3), (6, .long p4), (8, .int p5)], [.ref p0, .int p5])) zq_15 zo_15 (by with_unfolding_all rfl) ?_
    replace hf := zf_be hf
    obtain ⟨v1, hv, hf⟩ := hf
    refine zv_gf zq_15 zo_15 rfl rfl rfl (zf_Ie hv) ?_
    replace hf := zf_ite hf
    obtain ⟨hc, hf⟩ | ⟨hc, hf⟩ := hf
    · refine zv_brT (off := 42) (tt := 54) (r := []) zq_15 zo_15 hc rfl rfl rfl ?_
      refine zv_p (k := 1) (f' := (56, [(0, .ref p0), (1, .int p1), (2, .long p2), (4, .long p3), (6, .long p4), (8, .int p5)], [.long p4])) zq_15 zo_15 (by with_unfolding_all rfl) ?_
      cases hf
      exact zv_r zq_15 zo_15 rfl rfl rfl rfl rfl
    · refine zv_brF (off := 42) (tt := 54) (r := []) zq_15 zo_15 hc rfl rfl rfl ?_
      refine zv_p (k := 3) (f' := (19, [(0, .ref p0), (1, .int p1), (2, .long p2), (4, .long p3), (6, .long p4), (8, .int p5)], [.int p5, .int p1, .ref p0])) zq_15 zo_15 (by with_unfolding_all rfl) ?_
      replace hf := zf_be hf
      obtain ⟨_, ho, hf⟩ := hf
      replace hf := zf_b2e hf
      obtain ⟨v2, h3, hv, hf⟩ := hf
      refine zv_c zq_15 zo_15 rfl rfl rfl rfl rfl (zv_cv rfl rfl rfl (zf_ise ho) rfl) (t_f_Sheet_keyAt _ _ _ _ _ _ hv) ?_
      refine zv_p (k := 4) (f' := (28, [(9, .long v2), (0, .ref p0), (1, .int p1), (2, .long p2), (4, .long p3), (6, .long p4), (8, .int p5)], [.int (lg_cmp v2 p2)])) zq_15 zo_15 (by with_unfolding_all rfl) ?_
      replace hf := zf_ite hf
      obtain ⟨hc, hf⟩ | ⟨hc, hf⟩ := hf
      · refine zv_brT (off := 20) (tt := 48) (r := []) zq_15 zo_15 (zl_lt.mpr hc) rfl rfl rfl ?_
        refine zv_p (k := 2) (f' := (6, [(8, .int (p5 + (1 : Int32))), (9, .long v2), (0, .ref p0), (1, .int p1), (2, .long p2), (4, .long p3), (6, .long p4)], [])) zq_15 zo_15 (by with_unfolding_all rfl) ?_
        refine zv_pick (lv' := [(0, .ref p0), (1, .int p1), (2, .long p2), (4, .long p3), (6, .long p4), (8, .int (p5 + (1 : Int32)))]) [0, 1, 2, 4, 6, 8] rfl rfl ?_
        exact ih _ _ _ _ _ _ _ _ _ hf
      · refine zv_brF (off := 20) (tt := 48) (r := []) zq_15 zo_15 (mt zl_lt.mp hc) rfl rfl rfl ?_
        refine zv_p (k := 3) (f' := (36, [(9, .long v2), (0, .ref p0), (1, .int p1), (2, .long p2), (4, .long p3), (6, .long p4), (8, .int p5)], [.int (lg_cmp v2 p3)])) zq_15 zo_15 (by with_unfolding_all rfl) ?_
        replace hf := zf_ite hf
        obtain ⟨hc, hf⟩ | ⟨hc, hf⟩ := hf
        · refine zv_brT (off := 12) (tt := 48) (r := []) zq_15 zo_15 (zl_gt.mpr hc) rfl rfl rfl ?_
          refine zv_p (k := 2) (f' := (6, [(8, .int (p5 + (1 : Int32))), (9, .long v2), (0, .ref p0), (1, .int p1), (2, .long p2), (4, .long p3), (6, .long p4)], [])) zq_15 zo_15 (by with_unfolding_all rfl) ?_
          refine zv_pick (lv' := [(0, .ref p0), (1, .int p1), (2, .long p2), (4, .long p3), (6, .long p4), (8, .int (p5 + (1 : Int32)))]) [0, 1, 2, 4, 6, 8] rfl rfl ?_
          exact ih _ _ _ _ _ _ _ _ _ hf
        · refine zv_brF (off := 12) (tt := 48) (r := []) zq_15 zo_15 (mt zl_gt.mp hc) rfl rfl rfl ?_
          refine zv_p (k := 8) (f' := (6, [(8, .int (p5 + (1 : Int32))), (6, .long (p4 ||| ((1 : Int64) <<< ((p5).toInt64 &&& 63)))), (9, .long v2), (0, .ref p0), (1, .int p1), (2, .long p2), (4, .long p3)], [])) zq_15 zo_15 (by with_unfolding_all rfl) ?_
          refine zv_pick (lv' := [(0, .ref p0), (1, .int p1), (2, .long p2), (4, .long p3), (6, .long (p4 ||| ((1 : Int64) <<< ((p5).toInt64 &&& 63)))), (8, .int (p5 + (1 : Int32)))]) [0, 1, 2, 4, 6, 8] rfl rfl ?_
          exact ih _ _ _ _ _ _ _ _ _ hf
set_option maxHeartbeats 1000000 in
def f_Sheet_rowsFromTo (p0 : Nat) (p1 : Int32) (p2 : Int64) (p3 : Int64) (h : zx_H) : Option (Int64 × zx_H) :=
  f_Sheet_rowsFromTo_6 zF p0 p1 p2 p3 (0 : Int64) (0 : Int32) h
set_option maxHeartbeats 4000000 in
set_option maxRecDepth 400000 in
theorem t_f_Sheet_rowsFromTo {sc : (Nat × (Nat → Int32)) × Bool} {d : Nat} (p0 : Nat) (p1 : Int32) (p2 : Int64) (p3 : Int64) (h : zx_H) (r : Int64) (h' : zx_H) (hf : f_Sheet_rowsFromTo p0 p1 p2 p3 h = some (r, h')) : zx_T sc (d + 1) 15 (0, [(0, .ref p0), (1, .int p1), (2, .long p2), (4, .long p3)], []) h (zf_oJ r) h' := by
  unfold f_Sheet_rowsFromTo at hf
  refine zv_p (k := 4) (f' := (6, [(8, .int (0 : Int32)), (6, .long (0 : Int64)), (0, .ref p0), (1, .int p1), (2, .long p2), (4, .long p3)], [])) zq_15 zo_15 (by with_unfolding_all rfl) ?_
  refine zv_pick (lv' := [(0, .ref p0), (1, .int p1), (2, .long p2), (4, .long p3), (6, .long (0 : Int64)), (8, .int (0 : Int32))]) [0, 1, 2, 4, 6, 8] rfl rfl ?_
  exact t_f_Sheet_rowsFromTo_6 zF _ _ _ _ _ _ _ _ _ hf
/-! ColumnVault$Sheet.rowsWith (IJ)J -/
noncomputable def zI_14 : zd_T := [[(0, .aload_n 0, 1), (1, .iload_n 1, 1), (2, .lload_n 2, 1), (3, .lload_n 2, 1), (4, .invokevirtual 94, 3), (7, .lreturn, 1)]]
theorem zo_14 : zd_of 14 = some zI_14 := rfl
set_option maxRecDepth 100000 in
theorem zq_14 : zt_m[14]? = some (⟨"ColumnVault$Sheet", "rowsWith", "(IJ)J"⟩, prog_10_method_24_code, 4, some (.long), [], 10, 2, 0, 0, 0, 0) := rfl
set_option maxHeartbeats 1000000 in
def f_Sheet_rowsWith (p0 : Nat) (p1 : Int32) (p2 : Int64) (h : zx_H) : Option (Int64 × zx_H) :=
  zf_b (zf_is 10 p0 h) fun _ =>
  zf_b2 (f_Sheet_rowsFromTo p0 p1 p2 p2 h) fun v1 h2 =>
  some (v1, h2)
set_option maxHeartbeats 4000000 in
set_option maxRecDepth 400000 in
theorem t_f_Sheet_rowsWith {sc : (Nat × (Nat → Int32)) × Bool} {d : Nat} (p0 : Nat) (p1 : Int32) (p2 : Int64) (h : zx_H) (r : Int64) (h' : zx_H) (hf : f_Sheet_rowsWith p0 p1 p2 h = some (r, h')) : zx_T sc (d + 2) 14 (0, [(0, .ref p0), (1, .int p1), (2, .long p2)], []) h (zf_oJ r) h' := by
  unfold f_Sheet_rowsWith at hf
  refine zv_p (k := 4) (f' := (4, [(0, .ref p0), (1, .int p1), (2, .long p2)], [.long p2, .long p2, .int p1, .ref p0])) zq_14 zo_14 (by with_unfolding_all rfl) ?_
  replace hf := zf_be hf
  obtain ⟨_, ho, hf⟩ := hf
  replace hf := zf_b2e hf
  obtain ⟨v1, h2, hv, hf⟩ := hf
  refine zv_c zq_14 zo_14 rfl rfl rfl rfl rfl (zv_cv rfl rfl rfl (zf_ise ho) rfl) (t_f_Sheet_rowsFromTo _ _ _ _ _ _ _ hv) ?_
  cases hf
  exact zv_r zq_14 zo_14 rfl rfl rfl rfl rfl
/-! ColumnVault$Sheet.missingValues ()I -/
noncomputable def zI_13 : zd_T := [[(0, .iconst 0, 1), (1, .istore_n 1, 1), (2, .iconst 0, 1), (3, .istore_n 2, 1), (4, .iload_n 2, 1), (5, .aload_n 0, 1), (6, .getfield 22, 3), (9, .if_icmp .ge 23, 3), (12, .iload_n 1, 1), (13, .aload_n 0, 1), (14, .iload_n 2, 1), (15, .ldc2_w 47, 3), (18, .invokevirtual 60, 3), (21, .invokestatic 63, 3), (24, .iadd, 1), (25, .istore_n 1, 1), (26, .iinc 2 1, 3), (29, .goto (-25), 3)], [(32, .iload_n 1, 1), (33, .ireturn, 1)]]
theorem zo_13 : zd_of 13 = some zI_13 := rfl
set_option maxRecDepth 100000 in
theorem zq_13 : zt_m[13]? = some (⟨"ColumnVault$Sheet", "missingValues", "()I"⟩, prog_10_method_10_code, 3, some (.int), [], 10, 0, 0, 0, 0, 0) := rfl
set_option maxHeartbeats 1000000 in
def f_Sheet_missingValues_4 : Nat → Nat → Int32 → Int32 → zx_H → Option (Int32 × zx_H)
  | 0, _, _, _, _ => none
  | n + 1, p0, p1, p2, h =>
    zf_b (zf_I 10 3 p0 h) fun v1 =>
    if v1 ≤ p2 then
      some (p1, h)
    else
      zf_b (zf_is 10 p0 h) fun _ =>
      zf_b2 (f_Sheet_rowsWith p0 p2 (-9000000000 : Int64) h) fun v2 h3 =>
      zf_b2 (f_Long_bitCount v2 h3) fun v4 h5 =>
      (f_Sheet_missingValues_4 n) p0 (p1 + v4) (p2 + (1 : Int32)) h5
set_option maxHeartbeats 4000000 in
set_option maxRecDepth 400000 in
theorem t_f_Sheet_missingValues_4 {sc : (Nat × (Nat → Int32)) × Bool} {d : Nat} : ∀ (n : Nat) (p0 : Nat) (p1 : Int32) (p2 : Int32) (h : zx_H) (r : Int32) (h' : zx_H), f_Sheet_missingValues_4 n p0 p1 p2 h = some (r, h') → zx_T sc (d + 3) 13 (4, [(0, .ref p0), (1, .int p1), (2, .int p2)], []) h (zf_oI r) h' := by
  intro n
  induction n with
  | zero => intro p0 p1 p2 h r h' hf; cases hf
  | succ n ih =>
    intro p0 p1 p2 h r h' hf
    unfold f_Sheet_missingValues_4 at hf
    refine zv_p (k := 2) (f' := (6, [(0, .ref p0), (1, .int p1), (2, .int p2)], [.ref p0, .int p2])) zq_13 zo_13 (by with_unfolding_all rfl) ?_
    replace hf := zf_be hf
    obtain ⟨v1, hv, hf⟩ := hf
    refine zv_gf zq_13 zo_13 rfl rfl rfl (zf_Ie hv) ?_
    replace hf := zf_ite hf
    obtain ⟨hc, hf⟩ | ⟨hc, hf⟩ := hf
    · refine zv_brT (off := 23) (tt := 32) (r := []) zq_13 zo_13 hc rfl rfl rfl ?_
      refine zv_p (k := 1) (f' := (33, [(0, .ref p0), (1, .int p1), (2, .int p2)], [.int p1])) zq_13 zo_13 (by with_unfolding_all rfl) ?_
      cases hf
      exact zv_rn zq_13 zo_13 rfl rfl
    · refine zv_brF (off := 23) (tt := 32) (r := []) zq_13 zo_13 hc rfl rfl rfl ?_
      refine zv_p (k := 3) (f' := (15, [(0, .ref p0), (1, .int p1), (2, .int p2)], [.int p2, .ref p0, .int p1])) zq_13 zo_13 (by with_unfolding_all rfl) ?_
      refine zv_lng zq_13 zo_13 rfl rfl ?_
      replace hf := zf_be hf
      obtain ⟨_, ho, hf⟩ := hf
      replace hf := zf_b2e hf
      obtain ⟨v2, h3, hv, hf⟩ := hf
      refine zv_c zq_13 zo_13 rfl rfl rfl rfl rfl (zv_cv rfl rfl rfl (zf_ise ho) rfl) (t_f_Sheet_rowsWith _ _ _ _ _ _ hv) ?_
      replace hf := zf_b2e hf
      obtain ⟨v4, h5, hv, hf⟩ := hf
      refine zv_c zq_13 zo_13 rfl rfl rfl rfl rfl rfl (t_f_Long_bitCount _ _ _ _ hv) ?_
      refine zv_p (k := 4) (f' := (4, [(2, .int (p2 + (1 : Int32))), (1, .int (p1 + v4)), (0, .ref p0)], [])) zq_13 zo_13 (by with_unfolding_all rfl) ?_
      refine zv_pick (lv' := [(0, .ref p0), (1, .int (p1 + v4)), (2, .int (p2 + (1 : Int32)))]) [0, 1, 2] rfl rfl ?_
      exact ih _ _ _ _ _ _ hf
set_option maxHeartbeats 1000000 in
def f_Sheet_missingValues (p0 : Nat) (h : zx_H) : Option (Int32 × zx_H) :=
  f_Sheet_missingValues_4 zF p0 (0 : Int32) (0 : Int32) h
set_option maxHeartbeats 4000000 in
set_option maxRecDepth 400000 in
theorem t_f_Sheet_missingValues {sc : (Nat × (Nat → Int32)) × Bool} {d : Nat} (p0 : Nat) (h : zx_H) (r : Int32) (h' : zx_H) (hf : f_Sheet_missingValues p0 h = some (r, h')) : zx_T sc (d + 3) 13 (0, [(0, .ref p0)], []) h (zf_oI r) h' := by
  unfold f_Sheet_missingValues at hf
  refine zv_p (k := 4) (f' := (4, [(2, .int (0 : Int32)), (1, .int (0 : Int32)), (0, .ref p0)], [])) zq_13 zo_13 (by with_unfolding_all rfl) ?_
  refine zv_pick (lv' := [(0, .ref p0), (1, .int (0 : Int32)), (2, .int (0 : Int32))]) [0, 1, 2] rfl rfl ?_
  exact t_f_Sheet_missingValues_4 zF _ _ _ _ _ _ hf
/-! ColumnVault.size (II)I -/
noncomputable def zI_9 : zd_T := [[(0, .aload_n 0, 1), (1, .iload_n 1, 1), (2, .invokevirtual 53, 3), (5, .astore_n 3, 1), (6, .iload_n 2, 1), (7, .tableswitch 52 0 3 #[29, 34, 39, 47], 29)], [(36, .aload_n 3, 1), (37, .getfield 82, 3), (40, .ireturn, 1), (41, .aload_n 3, 1), (42, .getfield 64, 3), (45, .ireturn, 1), (46, .aload_n 3, 1), (47, .getfield 133, 3), (50, .invokestatic 137, 3), (53, .ireturn, 1), (54, .aload_n 3, 1), (55, .invokevirtual 141, 3), (58, .ireturn, 1), (59, .new 57, 3), (62, .dup, 1), (63, .ldc 144, 2)], [(65, .invokespecial 61, 3), (68, .athrow, 1)]]
theorem zo_9 : zd_of 9 = some zI_9 := rfl
set_option maxRecDepth 100000 in
theorem zq_9 : zt_m[9]? = some (⟨"ColumnVault", "size", "(II)I"⟩, prog_1_method_8_code, 4, some (.int), [], 12, 2, 0, 0, 0, 0) := rfl
set_option maxHeartbeats 1000000 in
def f_ColumnVault_size (p0 : Nat) (p1 : Int32) (p2 : Int32) (h : zx_H) : Option ((Int32 ⊕ Nat) × zx_H) :=
  zf_b (zf_is 12 p0 h) fun _ =>
  zf_b3 (f_ColumnVault_sheetOf p0 p1 h) fun v1 h2 =>
  if p2 = (0 : Int32) then
    zf_b (zf_I 10 4 v1 h2) fun v4 =>
    some (.inl v4, h2)
  else if p2 = (1 : Int32) then
    zf_b (zf_I 10 3 v1 h2) fun v5 =>
    some (.inl v5, h2)
  else if p2 = (2 : Int32) then
    zf_b (zf_J 10 5 v1 h2) fun v6 =>
    zf_b2 (f_Long_bitCount v6 h2) fun v7 h8 =>
    some (.inl v7, h8)
  else if p2 = (3 : Int32) then
    zf_b (zf_is 10 v1 h2) fun _ =>
    zf_b2 (f_Sheet_missingValues v1 h2) fun v9 h10 =>
    some (.inl v9, h10)
  else
    if h2.length < zx_lim then some (.inr 14, h2 ++ [.inr (14, [])]) else none
set_option maxHeartbeats 4000000 in
set_option maxRecDepth 400000 in
theorem t_f_ColumnVault_size {sc : (Nat × (Nat → Int32)) × Bool} {d : Nat} (p0 : Nat) (p1 : Int32) (p2 : Int32) (h : zx_H) (r : (Int32 ⊕ Nat)) (h' : zx_H) (hf : f_ColumnVault_size p0 p1 p2 h = some (r, h')) : zx_T sc (d + 4) 9 (0, [(0, .ref p0), (1, .int p1), (2, .int p2)], []) h (zf_oIx r) h' := by
  unfold f_ColumnVault_size at hf
  refine zv_p (k := 2) (f' := (2, [(0, .ref p0), (1, .int p1), (2, .int p2)], [.int p1, .ref p0])) zq_9 zo_9 (by with_unfolding_all rfl) ?_
  replace hf := zf_be hf
  obtain ⟨_, ho, hf⟩ := hf
  replace hf := zf_b3e hf
  obtain ⟨v1, h2, hv, hf⟩ | ⟨E3, h2, hv, hf⟩ := hf
  rotate_left
  · cases hf; exact zv_cx zq_9 zo_9 rfl rfl rfl rfl rfl (zv_cv rfl rfl rfl (zf_ise ho) rfl) (t_f_ColumnVault_sheetOf _ _ _ _ _ hv) rfl
  refine zv_c zq_9 zo_9 rfl rfl rfl rfl rfl (zv_cv rfl rfl rfl (zf_ise ho) rfl) (t_f_ColumnVault_sheetOf _ _ _ _ _ hv) ?_
  refine zv_p (k := 2) (f' := (7, [(3, .ref v1), (0, .ref p0), (1, .int p1), (2, .int p2)], [.int p2])) zq_9 zo_9 (by with_unfolding_all rfl) ?_
  replace hf := zf_ite hf
  obtain ⟨hc, hf⟩ | ⟨hs0, hf⟩ := hf
  · refine zv_sw (f' := (36, [(3, .ref v1), (0, .ref p0), (1, .int p1), (2, .int p2)], [])) zq_9 zo_9 rfl hc rfl ?_
    refine zv_p (k := 1) (f' := (37, [(3, .ref v1), (0, .ref p0), (1, .int p1), (2, .int p2)], [.ref v1])) zq_9 zo_9 (by with_unfolding_all rfl) ?_
    replace hf := zf_be hf
    obtain ⟨v4, hv, hf⟩ := hf
    refine zv_gf zq_9 zo_9 rfl rfl rfl (zf_Ie hv) ?_
    cases hf
    exact zv_rn zq_9 zo_9 rfl rfl
  replace hf := zf_ite hf
  obtain ⟨hc, hf⟩ | ⟨hs1, hf⟩ := hf
  · refine zv_sw (f' := (41, [(3, .ref v1), (0, .ref p0), (1, .int p1), (2, .int p2)], [])) zq_9 zo_9 rfl hc rfl ?_
    refine zv_p (k := 1) (f' := (42, [(3, .ref v1), (0, .ref p0), (1, .int p1), (2, .int p2)], [.ref v1])) zq_9 zo_9 (by with_unfolding_all rfl) ?_
    replace hf := zf_be hf
    obtain ⟨v5, hv, hf⟩ := hf
    refine zv_gf zq_9 zo_9 rfl rfl rfl (zf_Ie hv) ?_
    cases hf
    exact zv_rn zq_9 zo_9 rfl rfl
  replace hf := zf_ite hf
  obtain ⟨hc, hf⟩ | ⟨hs2, hf⟩ := hf
  · refine zv_sw (f' := (46, [(3, .ref v1), (0, .ref p0), (1, .int p1), (2, .int p2)], [])) zq_9 zo_9 rfl hc rfl ?_
    refine zv_p (k := 1) (f' := (47, [(3, .ref v1), (0, .ref p0), (1, .int p1), (2, .int p2)], [.ref v1])) zq_9 zo_9 (by with_unfolding_all rfl) ?_
    replace hf := zf_be hf
    obtain ⟨v6, hv, hf⟩ := hf
    refine zv_gf zq_9 zo_9 rfl rfl rfl (zf_Je hv) ?_
    replace hf := zf_b2e hf
    obtain ⟨v7, h8, hv, hf⟩ := hf
    refine zv_c zq_9 zo_9 rfl rfl rfl rfl rfl rfl (t_f_Long_bitCount _ _ _ _ hv) ?_
    cases hf
    exact zv_rn zq_9 zo_9 rfl rfl
  replace hf := zf_ite hf
  obtain ⟨hc, hf⟩ | ⟨hs3, hf⟩ := hf
  · refine zv_sw (f' := (54, [(3, .ref v1), (0, .ref p0), (1, .int p1), (2, .int p2)], [])) zq_9 zo_9 rfl hc rfl ?_
    refine zv_p (k := 1) (f' := (55, [(3, .ref v1), (0, .ref p0), (1, .int p1), (2, .int p2)], [.ref v1])) zq_9 zo_9 (by with_unfolding_all rfl) ?_
    replace hf := zf_be hf
    obtain ⟨_, ho, hf⟩ := hf
    replace hf := zf_b2e hf
    obtain ⟨v9, h10, hv, hf⟩ := hf
    refine zv_c zq_9 zo_9 rfl rfl rfl rfl rfl (zv_cv rfl rfl rfl (zf_ise ho) rfl) (t_f_Sheet_missingValues _ _ _ _ hv) ?_
    cases hf
    exact zv_rn zq_9 zo_9 rfl rfl
  refine zv_tsd (tt := 59) zq_9 zo_9 rfl (by have e0 := zi_ne (k := 0) rfl hs0; have e1 := zi_ne (k := 1) rfl hs1; have e2 := zi_ne (k := 2) rfl hs2; have e3 := zi_ne (k := 3) rfl hs3; omega) rfl ?_
  replace hf := zf_ite hf
  obtain ⟨hc, hf⟩ | ⟨hc, hf⟩ := hf
  · cases hf; exact zv_t zq_9 zo_9 rfl rfl rfl rfl rfl rfl rfl rfl rfl hc
  · cases hf
/-! ColumnVault.version ()I -/
noncomputable def zI_17 : zd_T := [[(0, .aload_n 0, 1), (1, .getfield 14, 3), (4, .getfield 146, 3), (7, .ireturn, 1)]]
theorem zo_17 : zd_of 17 = some zI_17 := rfl
set_option maxRecDepth 100000 in
theorem zq_17 : zt_m[17]? = some (⟨"ColumnVault", "version", "()I"⟩, prog_1_method_10_code, 1, some (.int), [], 12, 0, 0, 0, 0, 0) := rfl
set_option maxHeartbeats 1000000 in
def f_ColumnVault_version (p0 : Nat) (h : zx_H) : Option (Int32 × zx_H) :=
  zf_b (zf_A 12 0 p0 h) fun v1 =>
  zf_b (zf_I 6 1 v1 h) fun v2 =>
  some (v2, h)
set_option maxHeartbeats 4000000 in
set_option maxRecDepth 400000 in
theorem t_f_ColumnVault_version {sc : (Nat × (Nat → Int32)) × Bool} {d : Nat} (p0 : Nat) (h : zx_H) (r : Int32) (h' : zx_H) (hf : f_ColumnVault_version p0 h = some (r, h')) : zx_T sc d 17 (0, [(0, .ref p0)], []) h (zf_oI r) h' := by
  unfold f_ColumnVault_version at hf
  refine zv_p (k := 1) (f' := (1, [(0, .ref p0)], [.ref p0])) zq_17 zo_17 (by with_unfolding_all rfl) ?_
  replace hf := zf_be hf
  obtain ⟨v1, hv, hf⟩ := hf
  refine zv_gf zq_17 zo_17 rfl rfl rfl (zf_Ae hv) ?_
  replace hf := zf_be hf
  obtain ⟨v2, hv, hf⟩ := hf
  refine zv_gf zq_17 zo_17 rfl rfl rfl (zf_Ie hv) ?_
  cases hf
  exact zv_rn zq_17 zo_17 rfl rfl
/-! ColumnVault.chosenShare (I)F -/
noncomputable def zI_18 : zd_T := [[(0, .aload_n 0, 1), (1, .iload_n 1, 1), (2, .invokevirtual 53, 3), (5, .astore_n 2, 1), (6, .aload_n 2, 1), (7, .getfield 82, 3), (10, .ifCond .ne 7, 3), (13, .fconst 0, 1), (14, .goto 17, 3), (17, .aload_n 2, 1), (18, .getfield 133, 3), (21, .invokestatic 137, 3), (24, .i2f, 1), (25, .aload_n 2, 1), (26, .getfield 82, 3), (29, .i2f, 1), (30, .fdiv, 1), (31, .freturn, 1)], []]
theorem zo_18 : zd_of 18 = some zI_18 := rfl
set_option maxRecDepth 100000 in
theorem zq_18 : zt_m[18]? = some (⟨"ColumnVault", "chosenShare", "(I)F"⟩, prog_1_method_40_code, 3, some (.float), [], 12, 1, 0, 0, 0, 0) := rfl
set_option maxHeartbeats 1000000 in
def f_ColumnVault_chosenShare (p0 : Nat) (p1 : Int32) (h : zx_H) : Option ((UInt32 ⊕ Nat) × zx_H) :=
  zf_b (zf_is 12 p0 h) fun _ =>
  zf_b3 (f_ColumnVault_sheetOf p0 p1 h) fun v1 h2 =>
  zf_b (zf_I 10 4 v1 h2) fun v4 =>
  if ¬ v4 = 0 then
    zf_b (zf_J 10 5 v1 h2) fun v5 =>
    zf_b2 (f_Long_bitCount v5 h2) fun v6 h7 =>
    zf_b (zf_I 10 4 v1 h7) fun v8 =>
    if (FP.fdiv (FP.i2f v6) (FP.i2f v8)) &&& 0x7fffffff ≤ 0x7f800000 then
    some (.inl (FP.fdiv (FP.i2f v6) (FP.i2f v8)), h7)
    else none
  else
    some (.inl FP.fconst0, h2)
set_option maxHeartbeats 4000000 in
set_option maxRecDepth 400000 in
theorem t_f_ColumnVault_chosenShare {sc : (Nat × (Nat → Int32)) × Bool} {d : Nat} (p0 : Nat) (p1 : Int32) (h : zx_H) (r : (UInt32 ⊕ Nat)) (h' : zx_H) (hf : f_ColumnVault_chosenShare p0 p1 h = some (r, h')) : zx_T sc (d + 2) 18 (0, [(0, .ref p0), (1, .int p1)], []) h (zf_oFx r) h' := by
  unfold f_ColumnVault_chosenShare at hf
  refine zv_p (k := 2) (f' := (2, [(0, .ref p0), (1, .int p1)], [.int p1, .ref p0])) zq_18 zo_18 (by with_unfolding_all rfl) ?_
  replace hf := zf_be hf
  obtain ⟨_, ho, hf⟩ := hf
  replace hf := zf_b3e hf
  obtain ⟨v1, h2, hv, hf⟩ | ⟨E3, h2, hv, hf⟩ := hf
  rotate_left
  · cases hf; exact zv_cx zq_18 zo_18 rfl rfl rfl rfl rfl (zv_cv rfl rfl rfl (zf_ise ho) rfl) (t_f_ColumnVault_sheetOf _ _ _ _ _ hv) rfl
  refine zv_c zq_18 zo_18 rfl rfl rfl rfl rfl (zv_cv rfl rfl rfl (zf_ise ho) rfl) (t_f_ColumnVault_sheetOf _ _ _ _ _ hv) ?_
  refine zv_p (k := 2) (f' := (7, [(2, .ref v1), (0, .ref p0), (1, .int p1)], [.ref v1])) zq_18 zo_18 (by with_unfolding_all rfl) ?_
  replace hf := zf_be hf
  obtain ⟨v4, hv, hf⟩ := hf
  refine zv_gf zq_18 zo_18 rfl rfl rfl (zf_Ie hv) ?_
  replace hf := zf_ite hf
  obtain ⟨hc, hf⟩ | ⟨hc, hf⟩ := hf
  · refine zv_brT (off := 7) (tt := 17) (r := []) zq_18 zo_18 hc rfl rfl rfl ?_
    refine zv_p (k := 1) (f' := (18, [(2, .ref v1), (0, .ref p0), (1, .int p1)], [.ref v1])) zq_18 zo_18 (by with_unfolding_all rfl) ?_
    replace hf := zf_be hf
    obtain ⟨v5, hv, hf⟩ := hf
    refine zv_gf zq_18 zo_18 rfl rfl rfl (zf_Je hv) ?_
    replace hf := zf_b2e hf
    obtain ⟨v6, h7, hv, hf⟩ := hf
    refine zv_c zq_18 zo_18 rfl rfl rfl rfl rfl rfl (t_f_Long_bitCount _ _ _ _ hv) ?_
    refine zv_p (k := 2) (f' := (26, [(2, .ref v1), (0, .ref p0), (1, .int p1)], [.ref v1, .float (FP.i2f v6)])) zq_18 zo_18 (by with_unfolding_all rfl) ?_
    replace hf := zf_be hf
    obtain ⟨v8, hv, hf⟩ := hf
    refine zv_gf zq_18 zo_18 rfl rfl rfl (zf_Ie hv) ?_
    refine zv_p (k := 1) (f' := (30, [(2, .ref v1), (0, .ref p0), (1, .int p1)], [.float (FP.i2f v8), .float (FP.i2f v6)])) zq_18 zo_18 (by with_unfolding_all rfl) ?_
    replace hf := zf_ite hf
    obtain ⟨hc, hf⟩ | ⟨hc, hf⟩ := hf
    rotate_left
    · cases hf
    refine zv_fdiv zq_18 zo_18 rfl hc ?_
    cases hf
    exact zv_r zq_18 zo_18 rfl rfl rfl rfl rfl
  · refine zv_brF (off := 7) (tt := 17) (r := []) zq_18 zo_18 hc rfl rfl rfl ?_
    refine zv_p (k := 2) (f' := (31, [(2, .ref v1), (0, .ref p0), (1, .int p1)], [.float FP.fconst0])) zq_18 zo_18 (by with_unfolding_all rfl) ?_
    cases hf
    exact zv_r zq_18 zo_18 rfl rfl rfl rfl rfl
/-! ColumnVaultLaw.seed (arr I)arr I -/
noncomputable def zI_19 : zd_T := [[(0, .iconst 2, 1), (1, .newarray .int, 2), (3, .dup, 1), (4, .iconst 0, 1), (5, .aload_n 0, 1), (6, .arraylength, 1), (7, .sipush 12345, 3), (10, .iadd, 1), (11, .iastore, 1), (12, .dup, 1), (13, .iconst 1, 1), (14, .ldc 9, 2), (16, .iastore, 1), (17, .astore_n 1, 1), (18, .iconst 0, 1), (19, .istore_n 2, 1), (20, .iload_n 2, 1), (21, .aload_n 0, 1), (22, .arraylength, 1), (23, .if_icmp .ge 44, 3), (26, .aload_n 1, 1), (27, .iconst 0, 1), (28, .aload_n 1, 1), (29, .iconst 0, 1), (30, .iaload, 1), (31, .aload_n 0, 1)], [(32, .iload_n 2, 1), (33, .iaload, 1), (34, .ixor, 1), (35, .ldc 10, 2), (37, .imul, 1), (38, .iload_n 2, 1), (39, .iadd, 1), (40, .iastore, 1), (41, .aload_n 1, 1), (42, .iconst 1, 1), (43, .aload_n 1, 1), (44, .iconst 1, 1), (45, .iaload, 1), (46, .aload_n 0, 1), (47, .iload_n 2, 1), (48, .iaload, 1), (49, .iadd, 1), (50, .ldc 11, 2), (52, .imul, 1), (53, .aload_n 1, 1), (54, .iconst 0, 1), (55, .iaload, 1), (56, .bipush 7, 2), (58, .iushr, 1), (59, .iadd, 1), (60, .iastore, 1), (61, .iinc 2 1, 3)], [(64, .goto (-44), 3), (67, .aload_n 1, 1), (68, .areturn, 1)]]
theorem zo_19 : zd_of 19 = some zI_19 := rfl
set_option maxRecDepth 100000 in
theorem zq_19 : zt_m[19]? = some (⟨"ColumnVaultLaw", "seed", "([I)[I"⟩, method_2_code, 3, some (.array (.int)), [], 17, 1, 0, 1, 99999, 0) := rfl
set_option maxHeartbeats 1000000 in
def f_ColumnVaultLaw_seed_20 (sc : (Nat × (Nat → Int32)) × Bool) : Nat → Nat → Int32 → zx_H → Option (Nat × zx_H)
  | 0, _, _, _ => none
  | n + 1, p0, p1, h =>
    if (Int32.ofNat sc.1.1) ≤ p1 then
      some (p0, h)
    else
      zf_b (zf_ldI p0 (0 : Int32) h) fun v1 =>
      zf_b (zf_sld sc p1) fun v2 =>
      zf_b (zf_stI p0 (0 : Int32) (((v1 ^^^ v2) * (16777619 : Int32)) + p1) h) fun h3 =>
      zf_b (zf_ldI p0 (1 : Int32) h3) fun v4 =>
      zf_b (zf_sld sc p1) fun v5 =>
      zf_b (zf_ldI p0 (0 : Int32) h3) fun v6 =>
      zf_b (zf_stI p0 (1 : Int32) (((v4 + v5) * (1103515245 : Int32)) + ((v6).toUInt32 >>> (((7 : Int32)).toUInt32 &&& Int32.toUInt32 31)).toInt32) h3) fun h7 =>
      (f_ColumnVaultLaw_seed_20 sc n) p0 (p1 + (1 : Int32)) h7
set_option maxHeartbeats 4000000 in
set_option maxRecDepth 400000 in
theorem t_f_ColumnVaultLaw_seed_20 {sc : (Nat × (Nat → Int32)) × Bool} {d : Nat} : ∀ (n : Nat) (p0 : Nat) (p1 : Int32) (h : zx_H) (r : Nat) (h' : zx_H), f_ColumnVaultLaw_seed_20 sc n p0 p1 h = some (r, h') → zx_T sc d 19 (20, [(0, .ref zx_lim), (1, .ref p0), (2, .int p1)], []) h (zf_oA r) h' := by
  intro n
  induction n with
  | zero => intro p0 p1 h r h' hf; cases hf
  | succ n ih =>
    intro p0 p1 h r h' hf
    unfold f_ColumnVaultLaw_seed_20 at hf
    refine zv_p (k := 2) (f' := (22, [(0, .ref zx_lim), (1, .ref p0), (2, .int p1)], [.ref zx_lim, .int p1])) zq_19 zo_19 (by with_unfolding_all rfl) ?_
    refine zv_slen zq_19 zo_19 rfl ?_
    replace hf := zf_ite hf
    obtain ⟨hc, hf⟩ | ⟨hc, hf⟩ := hf
    · refine zv_brT (off := 44) (tt := 67) (r := []) zq_19 zo_19 hc rfl rfl rfl ?_
      refine zv_p (k := 1) (f' := (68, [(0, .ref zx_lim), (1, .ref p0), (2, .int p1)], [.ref p0])) zq_19 zo_19 (by with_unfolding_all rfl) ?_
      cases hf
      exact zv_r zq_19 zo_19 rfl rfl rfl rfl rfl
    · refine zv_brF (off := 44) (tt := 67) (r := []) zq_19 zo_19 hc rfl rfl rfl ?_
      refine zv_p (k := 4) (f' := (30, [(0, .ref zx_lim), (1, .ref p0), (2, .int p1)], [.int (0 : Int32), .ref p0, .int (0 : Int32), .ref p0])) zq_19 zo_19 (by with_unfolding_all rfl) ?_
      replace hf := zf_be hf
      obtain ⟨v1, hv, hf⟩ := hf
      refine zv_ldI zq_19 zo_19 rfl hv ?_
      refine zv_p (k := 2) (f' := (33, [(0, .ref zx_lim), (1, .ref p0), (2, .int p1)], [.int p1, .ref zx_lim, .int v1, .int (0 : Int32), .ref p0])) zq_19 zo_19 (by with_unfolding_all rfl) ?_
      replace hf := zf_be hf
      obtain ⟨v2, hv, hf⟩ := hf
      refine zv_sld zq_19 zo_19 rfl hv ?_
      refine zv_p (k := 1) (f' := (35, [(0, .ref zx_lim), (1, .ref p0), (2, .int p1)], [.int (v1 ^^^ v2), .int (0 : Int32), .ref p0])) zq_19 zo_19 (by with_unfolding_all rfl) ?_
      refine zv_ldi zq_19 zo_19 rfl rfl rfl ?_
      refine zv_p (k := 3) (f' := (40, [(0, .ref zx_lim), (1, .ref p0), (2, .int p1)], [.int (((v1 ^^^ v2) * (16777619 : Int32)) + p1), .int (0 : Int32), .ref p0])) zq_19 zo_19 (by with_unfolding_all rfl) ?_
      replace hf := zf_be hf
      obtain ⟨h3, hv, hf⟩ := hf
      refine zv_stI zq_19 zo_19 rfl hv ?_
      refine zv_p (k := 4) (f' := (45, [(0, .ref zx_lim), (1, .ref p0), (2, .int p1)], [.int (1 : Int32), .ref p0, .int (1 : Int32), .ref p0])) zq_19 zo_19 (by with_unfolding_all rfl) ?_
      replace hf := zf_be hf
      obtain ⟨v4, hv, hf⟩ := hf
      refine zv_ldI zq_19 zo_19 rfl hv ?_
      refine zv_p (k := 2) (f' := (48, [(0, .ref zx_lim), (1, .ref p0), (2, .int p1)], [.int p1, .ref zx_lim, .int v4, .int (1 : Int32), .ref p0])) zq_19 zo_19 (by with_unfolding_all rfl) ?_
      replace hf := zf_be hf
      obtain ⟨v5, hv, hf⟩ := hf
      refine zv_sld zq_19 zo_19 rfl hv ?_
      refine zv_p (k := 1) (f' := (50, [(0, .ref zx_lim), (1, .ref p0), (2, .int p1)], [.int (v4 + v5), .int (1 : Int32), .ref p0])) zq_19 zo_19 (by with_unfolding_all rfl) ?_
      refine zv_ldi zq_19 zo_19 rfl rfl rfl ?_
      refine zv_p (k := 3) (f' := (55, [(0, .ref zx_lim), (1, .ref p0), (2, .int p1)], [.int (0 : Int32), .ref p0, .int ((v4 + v5) * (1103515245 : Int32)), .int (1 : Int32), .ref p0])) zq_19 zo_19 (by with_unfolding_all rfl) ?_
      replace hf := zf_be hf
      obtain ⟨v6, hv, hf⟩ := hf
      refine zv_ldI zq_19 zo_19 rfl hv ?_
      refine zv_p (k := 3) (f' := (60, [(0, .ref zx_lim), (1, .ref p0), (2, .int p1)], [.int (((v4 + v5) * (1103515245 : Int32)) + ((v6).toUInt32 >>> (((7 : Int32)).toUInt32 &&& Int32.toUInt32 31)).toInt32), .int (1 : Int32), .ref p0])) zq_19 zo_19 (by with_unfolding_all rfl) ?_
      replace hf := zf_be hf
      obtain ⟨h7, hv, hf⟩ := hf
      refine zv_stI zq_19 zo_19 rfl hv ?_
      refine zv_p (k := 2) (f' := (20, [(2, .int (p1 + (1 : Int32))), (0, .ref zx_lim), (1, .ref p0)], [])) zq_19 zo_19 (by with_unfolding_all rfl) ?_
      refine zv_pick (lv' := [(0, .ref zx_lim), (1, .ref p0), (2, .int (p1 + (1 : Int32)))]) [0, 1, 2] rfl rfl ?_
      exact ih _ _ _ _ _ hf
set_option maxHeartbeats 1000000 in
def f_ColumnVaultLaw_seed (sc : (Nat × (Nat → Int32)) × Bool)  (h : zx_H) : Option (Nat × zx_H) :=
  zf_b2 (zf_newa .int 1 (2 : Int32) h) fun q1 h2 =>
  zf_b (zf_stI q1 (0 : Int32) ((Int32.ofNat sc.1.1) + (12345 : Int32)) h2) fun h3 =>
  zf_b (zf_stI q1 (1 : Int32) (987654321 : Int32) h3) fun h4 =>
  f_ColumnVaultLaw_seed_20 sc zF q1 (0 : Int32) h4
set_option maxHeartbeats 4000000 in
set_option maxRecDepth 400000 in
theorem t_f_ColumnVaultLaw_seed {sc : (Nat × (Nat → Int32)) × Bool} {d : Nat}  (h : zx_H) (r : Nat) (h' : zx_H) (hf : f_ColumnVaultLaw_seed sc  h = some (r, h')) : zx_T sc d 19 (0, [(0, .ref zx_lim)], []) h (zf_oA r) h' := by
  unfold f_ColumnVaultLaw_seed at hf
  refine zv_p (k := 1) (f' := (1, [(0, .ref zx_lim)], [.int (2 : Int32)])) zq_19 zo_19 (by with_unfolding_all rfl) ?_
  replace hf := zf_b2e hf
  obtain ⟨q1, h2, hv, hf⟩ := hf
  refine zv_newa zq_19 zo_19 rfl rfl hv ?_
  refine zv_p (k := 3) (f' := (6, [(0, .ref zx_lim)], [.ref zx_lim, .int (0 : Int32), .ref q1, .ref q1])) zq_19 zo_19 (by with_unfolding_all rfl) ?_
  refine zv_slen zq_19 zo_19 rfl ?_
  refine zv_p (k := 2) (f' := (11, [(0, .ref zx_lim)], [.int ((Int32.ofNat sc.1.1) + (12345 : Int32)), .int (0 : Int32), .ref q1, .ref q1])) zq_19 zo_19 (by with_unfolding_all rfl) ?_
  replace hf := zf_be hf
  obtain ⟨h3, hv, hf⟩ := hf
  refine zv_stI zq_19 zo_19 rfl hv ?_
  refine zv_p (k := 2) (f' := (14, [(0, .ref zx_lim)], [.int (1 : Int32), .ref q1, .ref q1])) zq_19 zo_19 (by with_unfolding_all rfl) ?_
  refine zv_ldi zq_19 zo_19 rfl rfl rfl ?_
  replace hf := zf_be hf
  obtain ⟨h4, hv, hf⟩ := hf
  refine zv_stI zq_19 zo_19 rfl hv ?_
  refine zv_p (k := 3) (f' := (20, [(2, .int (0 : Int32)), (1, .ref q1), (0, .ref zx_lim)], [])) zq_19 zo_19 (by with_unfolding_all rfl) ?_
  refine zv_pick (lv' := [(0, .ref zx_lim), (1, .ref q1), (2, .int (0 : Int32))]) [0, 1, 2] rfl rfl ?_
  exact t_f_ColumnVaultLaw_seed_20 zF _ _ _ _ _ hf
/-! ColumnVaultLaw.draw (arr II)I -/
noncomputable def zI_20 : zd_T := [[(0, .aload_n 0, 1), (1, .iconst 0, 1), (2, .aload_n 0, 1), (3, .iconst 0, 1), (4, .iaload, 1), (5, .ldc 11, 2), (7, .imul, 1), (8, .sipush 12345, 3), (11, .iadd, 1), (12, .iastore, 1), (13, .aload_n 0, 1), (14, .iconst 1, 1), (15, .aload_n 0, 1), (16, .iconst 1, 1), (17, .iaload, 1), (18, .aload_n 0, 1), (19, .iconst 0, 1), (20, .iaload, 1), (21, .bipush 9, 2), (23, .iushr, 1), (24, .ixor, 1), (25, .ldc 12, 2), (27, .imul, 1), (28, .iconst 1, 1), (29, .iadd, 1), (30, .iastore, 1), (31, .aload_n 0, 1)], [(32, .iconst 1, 1), (33, .iaload, 1), (34, .aload_n 0, 1), (35, .iconst 1, 1), (36, .iaload, 1), (37, .bipush 16, 2), (39, .iushr, 1), (40, .ixor, 1), (41, .iconst 4, 1), (42, .iushr, 1), (43, .iload_n 1, 1), (44, .irem, 1), (45, .ireturn, 1)]]
theorem zo_20 : zd_of 20 = some zI_20 := rfl
set_option maxRecDepth 100000 in
theorem zq_20 : zt_m[20]? = some (⟨"ColumnVaultLaw", "draw", "([II)I"⟩, method_3_code, 2, some (.int), [], 17, 2, 0, 1, 99999, 0) := rfl
