set_option maxHeartbeats 1000000 in
def f_Pairs_putRow_20 : Nat → Nat → Int32 → Int64 → Int32 → Int32 → zx_H → Option (Unit × zx_H)
  | 0, _, _, _, _, _, _ => none
  | n + 1, p0, p1, p2, p3, p4, h =>
    if (40 : Int32) ≤ p4 then
      some ((), h)
    else
      if p3 = (2 : Int32) then
        some ((), h)
      else
        zf_b2 (f_ColumnVault_holdsRow p2 p4 h) fun v1 h2 =>
        if v1 = 0 then
          (f_Pairs_putRow_20 n) p0 p1 p2 p3 (p4 + (1 : Int32)) h2
        else
          zf_b (zf_is 9 p0 h2) fun _ =>
          zf_b2 (f_Pairs_put p0 p1 p4 h2) fun _ h4 =>
          (f_Pairs_putRow_20 n) p0 p1 p2 p3 (p4 + (1 : Int32)) h4
set_option maxHeartbeats 4000000 in
set_option maxRecDepth 400000 in
theorem t_f_Pairs_putRow_20 {sc : (Nat × (Nat → Int32)) × Bool} {d : Nat} : ∀ (n : Nat) (p0 : Nat) (p1 : Int32) (p2 : Int64) (p3 : Int32) (p4 : Int32) (h : zx_H) (r : Unit) (h' : zx_H), f_Pairs_putRow_20 n p0 p1 p2 p3 p4 h = some (r, h') → zx_T sc (d + 1) 91 (20, [(0, .ref p0), (1, .int p1), (2, .long p2), (4, .int p3), (5, .int p4)], []) h (zf_oV r) h' := by
  intro n
  induction n with
  | zero => intro p0 p1 p2 p3 p4 h r h' hf; cases hf
  | succ n ih =>
    intro p0 p1 p2 p3 p4 h r h' hf
    unfold f_Pairs_putRow_20 at hf
    refine zv_p (k := 2) (f' := (24, [(0, .ref p0), (1, .int p1), (2, .long p2), (4, .int p3), (5, .int p4)], [.int (40 : Int32), .int p4])) zq_91 zo_91 (by with_unfolding_all rfl) ?_
    replace hf := zf_ite hf
    obtain ⟨hc, hf⟩ | ⟨hc, hf⟩ := hf
    · refine zv_brT (off := 31) (tt := 55) (r := []) zq_91 zo_91 hc rfl rfl rfl ?_
      cases hf
      exact zv_r zq_91 zo_91 rfl rfl rfl rfl rfl
    · refine zv_brF (off := 31) (tt := 55) (r := []) zq_91 zo_91 hc rfl rfl rfl ?_
      refine zv_p (k := 2) (f' := (30, [(0, .ref p0), (1, .int p1), (2, .long p2), (4, .int p3), (5, .int p4)], [.int (2 : Int32), .int p3])) zq_91 zo_91 (by with_unfolding_all rfl) ?_
      replace hf := zf_ite hf
      obtain ⟨hc, hf⟩ | ⟨hc, hf⟩ := hf
      · refine zv_brT (off := 25) (tt := 55) (r := []) zq_91 zo_91 hc rfl rfl rfl ?_
        cases hf
        exact zv_r zq_91 zo_91 rfl rfl rfl rfl rfl
      · refine zv_brF (off := 25) (tt := 55) (r := []) zq_91 zo_91 hc rfl rfl rfl ?_
        refine zv_p (k := 2) (f' := (36, [(0, .ref p0), (1, .int p1), (2, .long p2), (4, .int p3), (5, .int p4)], [.int p4, .long p2])) zq_91 zo_91 (by with_unfolding_all rfl) ?_
        replace hf := zf_b2e hf
        obtain ⟨v1, h2, hv, hf⟩ := hf
        refine zv_c zq_91 zo_91 rfl rfl rfl rfl rfl rfl (t_f_ColumnVault_holdsRow _ _ _ _ _ hv) ?_
        replace hf := zf_ite hf
        obtain ⟨hc, hf⟩ | ⟨hc, hf⟩ := hf
        · refine zv_brT (off := 10) (tt := 49) (r := []) zq_91 zo_91 hc rfl rfl rfl ?_
          refine zv_p (k := 2) (f' := (20, [(5, .int (p4 + (1 : Int32))), (0, .ref p0), (1, .int p1), (2, .long p2), (4, .int p3)], [])) zq_91 zo_91 (by with_unfolding_all rfl) ?_
          refine zv_pick (lv' := [(0, .ref p0), (1, .int p1), (2, .long p2), (4, .int p3), (5, .int (p4 + (1 : Int32)))]) [0, 1, 2, 4, 5] rfl rfl ?_
          exact ih _ _ _ _ _ _ _ _ hf
        · refine zv_brF (off := 10) (tt := 49) (r := []) zq_91 zo_91 hc rfl rfl rfl ?_
          refine zv_p (k := 3) (f' := (46, [(0, .ref p0), (1, .int p1), (2, .long p2), (4, .int p3), (5, .int p4)], [.int p4, .int p1, .ref p0])) zq_91 zo_91 (by with_unfolding_all rfl) ?_
          replace hf := zf_be hf
          obtain ⟨_, ho, hf⟩ := hf
          replace hf := zf_b2e hf
          obtain ⟨v3, h4, hv, hf⟩ := hf
          refine zv_c zq_91 zo_91 rfl rfl rfl rfl rfl (zv_cv rfl rfl rfl (zf_ise ho) rfl) (t_f_Pairs_put _ _ _ _ _ _ hv) ?_
          refine zv_p (k := 2) (f' := (20, [(5, .int (p4 + (1 : Int32))), (0, .ref p0), (1, .int p1), (2, .long p2), (4, .int p3)], [])) zq_91 zo_91 (by with_unfolding_all rfl) ?_
          refine zv_pick (lv' := [(0, .ref p0), (1, .int p1), (2, .long p2), (4, .int p3), (5, .int (p4 + (1 : Int32)))]) [0, 1, 2, 4, 5] rfl rfl ?_
          exact ih _ _ _ _ _ _ _ _ hf
set_option maxHeartbeats 1000000 in
def f_Pairs_putRow (p0 : Nat) (p1 : Int32) (p2 : Int64) (p3 : Int32) (h : zx_H) : Option (Unit × zx_H) :=
  if ¬ p2 = (0 : Int64) then
    f_Pairs_putRow_20 zF p0 p1 p2 p3 (0 : Int32) h
  else
    if p3 = 0 then
      f_Pairs_putRow_20 zF p0 p1 p2 p3 (0 : Int32) h
    else
      zf_b (zf_is 9 p0 h) fun _ =>
      zf_b2 (f_Pairs_put p0 p1 (-1 : Int32) h) fun _ h2 =>
      f_Pairs_putRow_20 zF p0 p1 p2 p3 (0 : Int32) h2
set_option maxHeartbeats 4000000 in
set_option maxRecDepth 400000 in
theorem t_f_Pairs_putRow {sc : (Nat × (Nat → Int32)) × Bool} {d : Nat} (p0 : Nat) (p1 : Int32) (p2 : Int64) (p3 : Int32) (h : zx_H) (r : Unit) (h' : zx_H) (hf : f_Pairs_putRow p0 p1 p2 p3 h = some (r, h')) : zx_T sc (d + 1) 91 (0, [(0, .ref p0), (1, .int p1), (2, .long p2), (4, .int p3)], []) h (zf_oV r) h' := by
  unfold f_Pairs_putRow at hf
  refine zv_p (k := 3) (f' := (3, [(0, .ref p0), (1, .int p1), (2, .long p2), (4, .int p3)], [.int (lg_cmp p2 (0 : Int64))])) zq_91 zo_91 (by with_unfolding_all rfl) ?_
  replace hf := zf_ite hf
  obtain ⟨hc, hf⟩ | ⟨hc, hf⟩ := hf
  · refine zv_brT (off := 14) (tt := 17) (r := []) zq_91 zo_91 (zl_ne.mpr hc) rfl rfl rfl ?_
    refine zv_p (k := 2) (f' := (20, [(5, .int (0 : Int32)), (0, .ref p0), (1, .int p1), (2, .long p2), (4, .int p3)], [])) zq_91 zo_91 (by with_unfolding_all rfl) ?_
    refine zv_pick (lv' := [(0, .ref p0), (1, .int p1), (2, .long p2), (4, .int p3), (5, .int (0 : Int32))]) [0, 1, 2, 4, 5] rfl rfl ?_
    exact t_f_Pairs_putRow_20 zF _ _ _ _ _ _ _ _ hf
  · refine zv_brF (off := 14) (tt := 17) (r := []) zq_91 zo_91 (mt zl_ne.mp hc) rfl rfl rfl ?_
    refine zv_p (k := 1) (f' := (8, [(0, .ref p0), (1, .int p1), (2, .long p2), (4, .int p3)], [.int p3])) zq_91 zo_91 (by with_unfolding_all rfl) ?_
    replace hf := zf_ite hf
    obtain ⟨hc, hf⟩ | ⟨hc, hf⟩ := hf
    · refine zv_brT (off := 9) (tt := 17) (r := []) zq_91 zo_91 hc rfl rfl rfl ?_
      refine zv_p (k := 2) (f' := (20, [(5, .int (0 : Int32)), (0, .ref p0), (1, .int p1), (2, .long p2), (4, .int p3)], [])) zq_91 zo_91 (by with_unfolding_all rfl) ?_
      refine zv_pick (lv' := [(0, .ref p0), (1, .int p1), (2, .long p2), (4, .int p3), (5, .int (0 : Int32))]) [0, 1, 2, 4, 5] rfl rfl ?_
      exact t_f_Pairs_putRow_20 zF _ _ _ _ _ _ _ _ hf
    · refine zv_brF (off := 9) (tt := 17) (r := []) zq_91 zo_91 hc rfl rfl rfl ?_
      refine zv_p (k := 3) (f' := (14, [(0, .ref p0), (1, .int p1), (2, .long p2), (4, .int p3)], [.int (-1 : Int32), .int p1, .ref p0])) zq_91 zo_91 (by with_unfolding_all rfl) ?_
      replace hf := zf_be hf
      obtain ⟨_, ho, hf⟩ := hf
      replace hf := zf_b2e hf
      obtain ⟨v1, h2, hv, hf⟩ := hf
      refine zv_c zq_91 zo_91 rfl rfl rfl rfl rfl (zv_cv rfl rfl rfl (zf_ise ho) rfl) (t_f_Pairs_put _ _ _ _ _ _ hv) ?_
      refine zv_p (k := 2) (f' := (20, [(5, .int (0 : Int32)), (0, .ref p0), (1, .int p1), (2, .long p2), (4, .int p3)], [])) zq_91 zo_91 (by with_unfolding_all rfl) ?_
      refine zv_pick (lv' := [(0, .ref p0), (1, .int p1), (2, .long p2), (4, .int p3), (5, .int (0 : Int32))]) [0, 1, 2, 4, 5] rfl rfl ?_
      exact t_f_Pairs_putRow_20 zF _ _ _ _ _ _ _ _ hf
/-! ColumnVault$Pairs.make (LColumnVault$Sheet;ILColumnVault$Sheet;II)V -/
noncomputable def zI_89 : zd_T := [[(0, .aload_n 0, 1), (1, .iconst 0, 1), (2, .putfield 18, 3), (5, .iconst 0, 1), (6, .istore 6, 2), (8, .iload 6, 2), (10, .aload_n 1, 1), (11, .getfield 22, 3), (14, .if_icmp .ge 68, 3), (17, .aload_n 1, 1), (18, .getfield 27, 3), (21, .iload 6, 2), (23, .invokestatic 31, 3), (26, .ifCond .eq 50, 3), (29, .aload_n 1, 1), (30, .iload_n 2, 1), (31, .iload 6, 2)], [(33, .invokevirtual 35, 3), (36, .lstore 7, 2), (38, .lload 7, 2), (40, .ldc2_w 39, 3), (43, .lcmp, 1), (44, .ifCond .ne 7, 3), (47, .lconst 0, 1), (48, .goto 16, 3), (51, .aload_n 3, 1), (52, .getfield 27, 3), (55, .aload_n 3, 1), (56, .iload 4, 2), (58, .lload 7, 2), (60, .invokevirtual 41, 3), (63, .land, 1)], [(64, .lstore 9, 2), (66, .aload_n 0, 1), (67, .iload 6, 2), (69, .lload 9, 2), (71, .iload 5, 2), (73, .invokevirtual 45, 3), (76, .iinc 6 1, 3), (79, .goto (-71), 3), (82, .return_, 1)]]
theorem zo_89 : zd_of 89 = some zI_89 := rfl
set_option maxRecDepth 100000 in
theorem zq_89 : zt_m[89]? = some (⟨"ColumnVault$Pairs", "make", "(LColumnVault$Sheet;ILColumnVault$Sheet;II)V"⟩, prog_9_method_2_code, 11, none, [], 9, 5, 0, 0, 0, 0) := rfl
set_option maxHeartbeats 1000000 in
def f_Pairs_make_8 : Nat → Nat → Nat → Int32 → Nat → Int32 → Int32 → Int32 → zx_H → Option (Unit × zx_H)
  | 0, _, _, _, _, _, _, _, _ => none
  | n + 1, p0, p1, p2, p3, p4, p5, p6, h =>
    zf_b (zf_I 10 4 p1 h) fun v1 =>
    if v1 ≤ p6 then
      some ((), h)
    else
      zf_b (zf_J 10 5 p1 h) fun v2 =>
      zf_b2 (f_ColumnVault_holdsRow v2 p6 h) fun v3 h4 =>
      if v3 = 0 then
        (f_Pairs_make_8 n) p0 p1 p2 p3 p4 p5 (p6 + (1 : Int32)) h4
      else
        zf_b (zf_is 10 p1 h4) fun _ =>
        zf_b2 (f_Sheet_keyAt p1 p2 p6 h4) fun v5 h6 =>
        if ¬ v5 = (-9000000000 : Int64) then
          zf_b (zf_J 10 5 p3 h6) fun v7 =>
          zf_b (zf_is 10 p3 h6) fun _ =>
          zf_b2 (f_Sheet_rowsWith p3 p4 v5 h6) fun v8 h9 =>
          zf_b (zf_is 9 p0 h9) fun _ =>
          zf_b2 (f_Pairs_putRow p0 p6 (v7 &&& v8) p5 h9) fun _ h11 =>
          (f_Pairs_make_8 n) p0 p1 p2 p3 p4 p5 (p6 + (1 : Int32)) h11
        else
          zf_b (zf_is 9 p0 h6) fun _ =>
          zf_b2 (f_Pairs_putRow p0 p6 (0 : Int64) p5 h6) fun _ h13 =>
          (f_Pairs_make_8 n) p0 p1 p2 p3 p4 p5 (p6 + (1 : Int32)) h13
set_option maxHeartbeats 4000000 in
set_option maxRecDepth 400000 in
theorem t_f_Pairs_make_8 {sc : (Nat × (Nat → Int32)) × Bool} {d : Nat} : ∀ (n : Nat) (p0 : Nat) (p1 : Nat) (p2 : Int32) (p3 : Nat) (p4 : Int32) (p5 : Int32) (p6 : Int32) (h : zx_H) (r : Unit) (h' : zx_H), f_Pairs_make_8 n p0 p1 p2 p3 p4 p5 p6 h = some (r, h') → zx_T sc (d + 3) 89 (8, [(0, .ref p0), (1, .ref p1), (2, .int p2), (3, .ref p3), (4, .int p4), (5, .int p5), (6, .int p6)], []) h (zf_oV r) h' := by
  intro n
  induction n with
  | zero => intro p0 p1 p2 p3 p4 p5 p6 h r h' hf; cases hf
  | succ n ih =>
    intro p0 p1 p2 p3 p4 p5 p6 h r h' hf
    unfold f_Pairs_make_8 at hf
    refine zv_p (k := 2) (f' := (11, [(0, .ref p0), (1, .ref p1), (2, .int p2), (3, .ref p3), (4, .int p4), (5, .int p5), (6, .int p6)], [.ref p1, .int p6])) zq_89 zo_89 (by with_unfolding_all rfl) ?_
    replace hf := zf_be hf
    obtain ⟨v1, hv, hf⟩ := hf
    refine zv_gf zq_89 zo_89 rfl rfl rfl (zf_Ie hv) ?_
    replace hf := zf_ite hf
    obtain ⟨hc, hf⟩ | ⟨hc, hf⟩ := hf
    · refine zv_brT (off := 68) (tt := 82) (r := []) zq_89 zo_89 hc rfl rfl rfl ?_
      cases hf
      exact zv_r zq_89 zo_89 rfl rfl rfl rfl rfl
    · refine zv_brF (off := 68) (tt := 82) (r := []) zq_89 zo_89 hc rfl rfl rfl ?_
      refine zv_p (k := 1) (f' := (18, [(0, .ref p0), (1, .ref p1), (2, .int p2), (3, .ref p3), (4, .int p4), (5, .int p5), (6, .int p6)], [.ref p1])) zq_89 zo_89 (by with_unfolding_all rfl) ?_
      replace hf := zf_be hf
      obtain ⟨v2, hv, hf⟩ := hf
      refine zv_gf zq_89 zo_89 rfl rfl rfl (zf_Je hv) ?_
      refine zv_p (k := 1) (f' := (23, [(0, .ref p0), (1, .ref p1), (2, .int p2), (3, .ref p3), (4, .int p4), (5, .int p5), (6, .int p6)], [.int p6, .long v2])) zq_89 zo_89 (by with_unfolding_all rfl) ?_
      replace hf := zf_b2e hf
      obtain ⟨v3, h4, hv, hf⟩ := hf
      refine zv_c zq_89 zo_89 rfl rfl rfl rfl rfl rfl (t_f_ColumnVault_holdsRow _ _ _ _ _ hv) ?_
      replace hf := zf_ite hf
      obtain ⟨hc, hf⟩ | ⟨hc, hf⟩ := hf
      · refine zv_brT (off := 50) (tt := 76) (r := []) zq_89 zo_89 hc rfl rfl rfl ?_
        refine zv_p (k := 2) (f' := (8, [(6, .int (p6 + (1 : Int32))), (0, .ref p0), (1, .ref p1), (2, .int p2), (3, .ref p3), (4, .int p4), (5, .int p5)], [])) zq_89 zo_89 (by with_unfolding_all rfl) ?_
        refine zv_pick (lv' := [(0, .ref p0), (1, .ref p1), (2, .int p2), (3, .ref p3), (4, .int p4), (5, .int p5), (6, .int (p6 + (1 : Int32)))]) [0, 1, 2, 3, 4, 5, 6] rfl rfl ?_
        exact ih _ _ _ _ _ _ _ _ _ _ hf
      · refine zv_brF (off := 50) (tt := 76) (r := []) zq_89 zo_89 hc rfl rfl rfl ?_
        refine zv_p (k := 3) (f' := (33, [(0, .ref p0), (1, .ref p1), (2, .int p2), (3, .ref p3), (4, .int p4), (5, .int p5), (6, .int p6)], [.int p6, .int p2, .ref p1])) zq_89 zo_89 (by with_unfolding_all rfl) ?_
        replace hf := zf_be hf
        obtain ⟨_, ho, hf⟩ := hf
        replace hf := zf_b2e hf
        obtain ⟨v5, h6, hv, hf⟩ := hf
        refine zv_c zq_89 zo_89 rfl rfl rfl rfl rfl (zv_cv rfl rfl rfl (zf_ise ho) rfl) (t_f_Sheet_keyAt _ _ _ _ _ _ hv) ?_
        refine zv_p (k := 2) (f' := (40, [(7, .long v5), (0, .ref p0), (1, .ref p1), (2, .int p2), (3, .ref p3), (4, .int p4), (5, .int p5), (6, .int p6)], [.long v5])) zq_89 zo_89 (by with_unfolding_all rfl) ?_
        refine zv_lng zq_89 zo_89 rfl rfl ?_
        refine zv_p (k := 1) (f' := (44, [(7, .long v5), (0, .ref p0), (1, .ref p1), (2, .int p2), (3, .ref p3), (4, .int p4), (5, .int p5), (6, .int p6)], [.int (lg_cmp v5 (-9000000000 : Int64))])) zq_89 zo_89 (by with_unfolding_all rfl) ?_
        replace hf := zf_ite hf
        obtain ⟨hc, hf⟩ | ⟨hc, hf⟩ := hf
        · refine zv_brT (off := 7) (tt := 51) (r := []) zq_89 zo_89 (zl_ne.mpr hc) rfl rfl rfl ?_
          refine zv_p (k := 1) (f' := (52, [(7, .long v5), (0, .ref p0), (1, .ref p1), (2, .int p2), (3, .ref p3), (4, .int p4), (5, .int p5), (6, .int p6)], [.ref p3])) zq_89 zo_89 (by with_unfolding_all rfl) ?_
          replace hf := zf_be hf
          obtain ⟨v7, hv, hf⟩ := hf
          refine zv_gf zq_89 zo_89 rfl rfl rfl (zf_Je hv) ?_
          refine zv_p (k := 3) (f' := (60, [(7, .long v5), (0, .ref p0), (1, .ref p1), (2, .int p2), (3, .ref p3), (4, .int p4), (5, .int p5), (6, .int p6)], [.long v5, .int p4, .ref p3, .long v7])) zq_89 zo_89 (by with_unfolding_all rfl) ?_
          replace hf := zf_be hf
          obtain ⟨_, ho, hf⟩ := hf
          replace hf := zf_b2e hf
          obtain ⟨v8, h9, hv, hf⟩ := hf
          refine zv_c zq_89 zo_89 rfl rfl rfl rfl rfl (zv_cv rfl rfl rfl (zf_ise ho) rfl) (t_f_Sheet_rowsWith _ _ _ _ _ _ hv) ?_
          refine zv_p (k := 6) (f' := (73, [(9, .long (v7 &&& v8)), (7, .long v5), (0, .ref p0), (1, .ref p1), (2, .int p2), (3, .ref p3), (4, .int p4), (5, .int p5), (6, .int p6)], [.int p5, .long (v7 &&& v8), .int p6, .ref p0])) zq_89 zo_89 (by with_unfolding_all rfl) ?_
          replace hf := zf_be hf
          obtain ⟨_, ho, hf⟩ := hf
          replace hf := zf_b2e hf
          obtain ⟨v10, h11, hv, hf⟩ := hf
          refine zv_c zq_89 zo_89 rfl rfl rfl rfl rfl (zv_cv rfl rfl rfl (zf_ise ho) rfl) (t_f_Pairs_putRow _ _ _ _ _ _ _ hv) ?_
          refine zv_p (k := 2) (f' := (8, [(6, .int (p6 + (1 : Int32))), (9, .long (v7 &&& v8)), (7, .long v5), (0, .ref p0), (1, .ref p1), (2, .int p2), (3, .ref p3), (4, .int p4), (5, .int p5)], [])) zq_89 zo_89 (by with_unfolding_all rfl) ?_
          refine zv_pick (lv' := [(0, .ref p0), (1, .ref p1), (2, .int p2), (3, .ref p3), (4, .int p4), (5, .int p5), (6, .int (p6 + (1 : Int32)))]) [0, 1, 2, 3, 4, 5, 6] rfl rfl ?_
          exact ih _ _ _ _ _ _ _ _ _ _ hf
        · refine zv_brF (off := 7) (tt := 51) (r := []) zq_89 zo_89 (mt zl_ne.mp hc) rfl rfl rfl ?_
          refine zv_p (k := 7) (f' := (73, [(9, .long (0 : Int64)), (7, .long v5), (0, .ref p0), (1, .ref p1), (2, .int p2), (3, .ref p3), (4, .int p4), (5, .int p5), (6, .int p6)], [.int p5, .long (0 : Int64), .int p6, .ref p0])) zq_89 zo_89 (by with_unfolding_all rfl) ?_
          replace hf := zf_be hf
          obtain ⟨_, ho, hf⟩ := hf
          replace hf := zf_b2e hf
          obtain ⟨v12, h13, hv, hf⟩ := hf
          refine zv_c zq_89 zo_89 rfl rfl rfl rfl rfl (zv_cv rfl rfl rfl (zf_ise ho) rfl) (t_f_Pairs_putRow _ _ _ _ _ _ _ hv) ?_
          refine zv_p (k := 2) (f' := (8, [(6, .int (p6 + (1 : Int32))), (9, .long (0 : Int64)), (7, .long v5), (0, .ref p0), (1, .ref p1), (2, .int p2), (3, .ref p3), (4, .int p4), (5, .int p5)], [])) zq_89 zo_89 (by with_unfolding_all rfl) ?_
          refine zv_pick (lv' := [(0, .ref p0), (1, .ref p1), (2, .int p2), (3, .ref p3), (4, .int p4), (5, .int p5), (6, .int (p6 + (1 : Int32)))]) [0, 1, 2, 3, 4, 5, 6] rfl rfl ?_
          exact ih _ _ _ _ _ _ _ _ _ _ hf
set_option maxHeartbeats 1000000 in
def f_Pairs_make (p0 : Nat) (p1 : Nat) (p2 : Int32) (p3 : Nat) (p4 : Int32) (p5 : Int32) (h : zx_H) : Option (Unit × zx_H) :=
  zf_b (zf_put 9 2 p0 (.int (0 : Int32)) h) fun h1 =>
  f_Pairs_make_8 zF p0 p1 p2 p3 p4 p5 (0 : Int32) h1
set_option maxHeartbeats 4000000 in
set_option maxRecDepth 400000 in
theorem t_f_Pairs_make {sc : (Nat × (Nat → Int32)) × Bool} {d : Nat} (p0 : Nat) (p1 : Nat) (p2 : Int32) (p3 : Nat) (p4 : Int32) (p5 : Int32) (h : zx_H) (r : Unit) (h' : zx_H) (hf : f_Pairs_make p0 p1 p2 p3 p4 p5 h = some (r, h')) : zx_T sc (d + 3) 89 (0, [(0, .ref p0), (1, .ref p1), (2, .int p2), (3, .ref p3), (4, .int p4), (5, .int p5)], []) h (zf_oV r) h' := by
  unfold f_Pairs_make at hf
  refine zv_p (k := 2) (f' := (2, [(0, .ref p0), (1, .ref p1), (2, .int p2), (3, .ref p3), (4, .int p4), (5, .int p5)], [.int (0 : Int32), .ref p0])) zq_89 zo_89 (by with_unfolding_all rfl) ?_
  replace hf := zf_be hf
  obtain ⟨h1, hv, hf⟩ := hf
  refine zv_pf zq_89 zo_89 rfl rfl rfl rfl hv ?_
  refine zv_p (k := 2) (f' := (8, [(6, .int (0 : Int32)), (0, .ref p0), (1, .ref p1), (2, .int p2), (3, .ref p3), (4, .int p4), (5, .int p5)], [])) zq_89 zo_89 (by with_unfolding_all rfl) ?_
  refine zv_pick (lv' := [(0, .ref p0), (1, .ref p1), (2, .int p2), (3, .ref p3), (4, .int p4), (5, .int p5), (6, .int (0 : Int32))]) [0, 1, 2, 3, 4, 5, 6] rfl rfl ?_
  exact t_f_Pairs_make_8 zF _ _ _ _ _ _ _ _ _ _ hf
/-! ColumnVault.join (IIIII)I -/
noncomputable def zI_87 : zd_T := [[(0, .aload_n 0, 1), (1, .iload_n 1, 1), (2, .iload_n 2, 1), (3, .invokevirtual 91, 3), (6, .astore 6, 2), (8, .aload_n 0, 1), (9, .iload_n 3, 1), (10, .iload 4, 2), (12, .invokevirtual 91, 3), (15, .astore 7, 2), (17, .aload 6, 2), (19, .iload_n 2, 1), (20, .invokevirtual 95, 3), (23, .aload 7, 2), (25, .iload 4, 2), (27, .invokevirtual 95, 3), (30, .invokestatic 242, 3)], [(33, .iload 5, 2), (35, .ifCond .lt 9, 3), (38, .iload 5, 2), (40, .iconst 2, 1), (41, .if_icmp .le 13, 3), (44, .new 57, 3), (47, .dup, 1), (48, .ldc 246, 2), (50, .invokespecial 61, 3), (53, .athrow, 1), (54, .aload_n 0, 1), (55, .getfield 35, 3), (58, .aload 6, 2), (60, .iload_n 2, 1), (61, .aload 7, 2), (63, .iload 4, 2)], [(65, .iload 5, 2), (67, .invokevirtual 248, 3), (70, .aload_n 0, 1), (71, .getfield 35, 3), (74, .getfield 252, 3), (77, .ireturn, 1)]]
theorem zo_87 : zd_of 87 = some zI_87 := rfl
set_option maxRecDepth 100000 in
theorem zq_87 : zt_m[87]? = some (⟨"ColumnVault", "join", "(IIIII)I"⟩, prog_1_method_25_code, 8, some (.int), [], 12, 5, 0, 0, 0, 0) := rfl
set_option maxHeartbeats 1000000 in
def f_ColumnVault_join (p0 : Nat) (p1 : Int32) (p2 : Int32) (p3 : Int32) (p4 : Int32) (p5 : Int32) (h : zx_H) : Option ((Int32 ⊕ Nat) × zx_H) :=
  zf_b (zf_is 12 p0 h) fun _ =>
  zf_b3 (f_ColumnVault_sheetWith p0 p1 p2 h) fun v1 h2 =>
  zf_b (zf_is 12 p0 h2) fun _ =>
  zf_b3 (f_ColumnVault_sheetWith p0 p3 p4 h2) fun v4 h5 =>
  zf_b (zf_is 10 v1 h5) fun _ =>
  zf_b2 (f_Sheet_kindOf v1 p2 h5) fun v7 h8 =>
  zf_b (zf_is 10 v4 h8) fun _ =>
  zf_b2 (f_Sheet_kindOf v4 p4 h8) fun v9 h10 =>
  zf_b3 (f_ColumnVault_requireSameKind v7 v9 h10) fun _ h12 =>
  if p5 < 0 then
    if h12.length < zx_lim then some (.inr 14, h12 ++ [.inr (14, [])]) else none
  else
    if p5 ≤ (2 : Int32) then
      zf_b (zf_A 12 3 p0 h12) fun v14 =>
      zf_b (zf_is 9 v14 h12) fun _ =>
      zf_b2 (f_Pairs_make v14 v1 p2 v4 p4 p5 h12) fun _ h16 =>
      zf_b (zf_A 12 3 p0 h16) fun v17 =>
      zf_b (zf_I 9 2 v17 h16) fun v18 =>
      some (.inl v18, h16)
    else
      if h12.length < zx_lim then some (.inr 14, h12 ++ [.inr (14, [])]) else none
set_option maxHeartbeats 4000000 in
set_option maxRecDepth 400000 in
theorem t_f_ColumnVault_join {sc : (Nat × (Nat → Int32)) × Bool} {d : Nat} (p0 : Nat) (p1 : Int32) (p2 : Int32) (p3 : Int32) (p4 : Int32) (p5 : Int32) (h : zx_H) (r : (Int32 ⊕ Nat)) (h' : zx_H) (hf : f_ColumnVault_join p0 p1 p2 p3 p4 p5 h = some (r, h')) : zx_T sc (d + 4) 87 (0, [(0, .ref p0), (1, .int p1), (2, .int p2), (3, .int p3), (4, .int p4), (5, .int p5)], []) h (zf_oIx r) h' := by
  unfold f_ColumnVault_join at hf
  refine zv_p (k := 3) (f' := (3, [(0, .ref p0), (1, .int p1), (2, .int p2), (3, .int p3), (4, .int p4), (5, .int p5)], [.int p2, .int p1, .ref p0])) zq_87 zo_87 (by with_unfolding_all rfl) ?_
  replace hf := zf_be hf
  obtain ⟨_, ho, hf⟩ := hf
  replace hf := zf_b3e hf
  obtain ⟨v1, h2, hv, hf⟩ | ⟨E3, h2, hv, hf⟩ := hf
  rotate_left
  · cases hf; exact zv_cx zq_87 zo_87 rfl rfl rfl rfl rfl (zv_cv rfl rfl rfl (zf_ise ho) rfl) (t_f_ColumnVault_sheetWith _ _ _ _ _ _ hv) rfl
  refine zv_c zq_87 zo_87 rfl rfl rfl rfl rfl (zv_cv rfl rfl rfl (zf_ise ho) rfl) (t_f_ColumnVault_sheetWith _ _ _ _ _ _ hv) ?_
  refine zv_p (k := 4) (f' := (12, [(6, .ref v1), (0, .ref p0), (1, .int p1), (2, .int p2), (3, .int p3), (4, .int p4), (5, .int p5)], [.int p4, .int p3, .ref p0])) zq_87 zo_87 (by with_unfolding_all rfl) ?_
  replace hf := zf_be hf
  obtain ⟨_, ho, hf⟩ := hf
  replace hf := zf_b3e hf
  obtain ⟨v4, h5, hv, hf⟩ | ⟨E6, h5, hv, hf⟩ := hf
  rotate_left
  · cases hf; exact zv_cx zq_87 zo_87 rfl rfl rfl rfl rfl (zv_cv rfl rfl rfl (zf_ise ho) rfl) (t_f_ColumnVault_sheetWith _ _ _ _ _ _ hv) rfl
  refine zv_c zq_87 zo_87 rfl rfl rfl rfl rfl (zv_cv rfl rfl rfl (zf_ise ho) rfl) (t_f_ColumnVault_sheetWith _ _ _ _ _ _ hv) ?_
  refine zv_p (k := 3) (f' := (20, [(7, .ref v4), (6, .ref v1), (0, .ref p0), (1, .int p1), (2, .int p2), (3, .int p3), (4, .int p4), (5, .int p5)], [.int p2, .ref v1])) zq_87 zo_87 (by with_unfolding_all rfl) ?_
  replace hf := zf_be hf
  obtain ⟨_, ho, hf⟩ := hf
  replace hf := zf_b2e hf
  obtain ⟨v7, h8, hv, hf⟩ := hf
  refine zv_c zq_87 zo_87 rfl rfl rfl rfl rfl (zv_cv rfl rfl rfl (zf_ise ho) rfl) (t_f_Sheet_kindOf _ _ _ _ _ hv) ?_
  refine zv_p (k := 2) (f' := (27, [(7, .ref v4), (6, .ref v1), (0, .ref p0), (1, .int p1), (2, .int p2), (3, .int p3), (4, .int p4), (5, .int p5)], [.int p4, .ref v4, .int v7])) zq_87 zo_87 (by with_unfolding_all rfl) ?_
  replace hf := zf_be hf
  obtain ⟨_, ho, hf⟩ := hf
  replace hf := zf_b2e hf
  obtain ⟨v9, h10, hv, hf⟩ := hf
  refine zv_c zq_87 zo_87 rfl rfl rfl rfl rfl (zv_cv rfl rfl rfl (zf_ise ho) rfl) (t_f_Sheet_kindOf _ _ _ _ _ hv) ?_
  replace hf := zf_b3e hf
  obtain ⟨v11, h12, hv, hf⟩ | ⟨E13, h12, hv, hf⟩ := hf
  rotate_left
  · cases hf; exact zv_cx zq_87 zo_87 rfl rfl rfl rfl rfl rfl (t_f_ColumnVault_requireSameKind _ _ _ _ _ hv) rfl
  refine zv_c zq_87 zo_87 rfl rfl rfl rfl rfl rfl (t_f_ColumnVault_requireSameKind _ _ _ _ _ hv) ?_
  refine zv_p (k := 1) (f' := (35, [(7, .ref v4), (6, .ref v1), (0, .ref p0), (1, .int p1), (2, .int p2), (3, .int p3), (4, .int p4), (5, .int p5)], [.int p5])) zq_87 zo_87 (by with_unfolding_all rfl) ?_
  replace hf := zf_ite hf
  obtain ⟨hc, hf⟩ | ⟨hc, hf⟩ := hf
  · refine zv_brT (off := 9) (tt := 44) (r := []) zq_87 zo_87 hc rfl rfl rfl ?_
    replace hf := zf_ite hf
    obtain ⟨hc, hf⟩ | ⟨hc, hf⟩ := hf
    · cases hf; exact zv_t zq_87 zo_87 rfl rfl rfl rfl rfl rfl rfl rfl rfl hc
    · cases hf
  · refine zv_brF (off := 9) (tt := 44) (r := []) zq_87 zo_87 hc rfl rfl rfl ?_
    refine zv_p (k := 2) (f' := (41, [(7, .ref v4), (6, .ref v1), (0, .ref p0), (1, .int p1), (2, .int p2), (3, .int p3), (4, .int p4), (5, .int p5)], [.int (2 : Int32), .int p5])) zq_87 zo_87 (by with_unfolding_all rfl) ?_
    replace hf := zf_ite hf
    obtain ⟨hc, hf⟩ | ⟨hc, hf⟩ := hf
    · refine zv_brT (off := 13) (tt := 54) (r := []) zq_87 zo_87 hc rfl rfl rfl ?_
      refine zv_p (k := 1) (f' := (55, [(7, .ref v4), (6, .ref v1), (0, .ref p0), (1, .int p1), (2, .int p2), (3, .int p3), (4, .int p4), (5, .int p5)], [.ref p0])) zq_87 zo_87 (by with_unfolding_all rfl) ?_
      replace hf := zf_be hf
      obtain ⟨v14, hv, hf⟩ := hf
      refine zv_gf zq_87 zo_87 rfl rfl rfl (zf_Ae hv) ?_
      refine zv_p (k := 5) (f' := (67, [(7, .ref v4), (6, .ref v1), (0, .ref p0), (1, .int p1), (2, .int p2), (3, .int p3), (4, .int p4), (5, .int p5)], [.int p5, .int p4, .ref v4, .int p2, .ref v1, .ref v14])) zq_87 zo_87 (by with_unfolding_all rfl) ?_
      replace hf := zf_be hf
      obtain ⟨_, ho, hf⟩ := hf
      replace hf := zf_b2e hf
      obtain ⟨v15, h16, hv, hf⟩ := hf
      refine zv_c zq_87 zo_87 rfl rfl rfl rfl rfl (zv_cv rfl rfl rfl (zf_ise ho) rfl) (t_f_Pairs_make _ _ _ _ _ _ _ _ _ hv) ?_
      refine zv_p (k := 1) (f' := (71, [(7, .ref v4), (6, .ref v1), (0, .ref p0), (1, .int p1), (2, .int p2), (3, .int p3), (4, .int p4), (5, .int p5)], [.ref p0])) zq_87 zo_87 (by with_unfolding_all rfl) ?_
      replace hf := zf_be hf
      obtain ⟨v17, hv, hf⟩ := hf
      refine zv_gf zq_87 zo_87 rfl rfl rfl (zf_Ae hv) ?_
      replace hf := zf_be hf
      obtain ⟨v18, hv, hf⟩ := hf
      refine zv_gf zq_87 zo_87 rfl rfl rfl (zf_Ie hv) ?_
      cases hf
      exact zv_rn zq_87 zo_87 rfl rfl
    · refine zv_brF (off := 13) (tt := 54) (r := []) zq_87 zo_87 hc rfl rfl rfl ?_
      replace hf := zf_ite hf
      obtain ⟨hc, hf⟩ | ⟨hc, hf⟩ := hf
      · cases hf; exact zv_t zq_87 zo_87 rfl rfl rfl rfl rfl rfl rfl rfl rfl hc
      · cases hf
/-! ColumnVault$Pairs.rowOf (IZ)I -/
noncomputable def zI_94 : zd_T := [[(0, .iload_n 1, 1), (1, .ifCond .lt 11, 3), (4, .iload_n 1, 1), (5, .aload_n 0, 1), (6, .getfield 18, 3), (9, .if_icmp .lt 5, 3), (12, .iconst (-1), 1), (13, .ireturn, 1), (14, .iload_n 2, 1), (15, .ifCond .eq 12, 3), (18, .aload_n 0, 1), (19, .getfield 15, 3), (22, .iload_n 1, 1), (23, .iaload, 1), (24, .goto 9, 3), (27, .aload_n 0, 1), (28, .getfield 9, 3), (31, .iload_n 1, 1)], [(32, .iaload, 1), (33, .ireturn, 1)]]
theorem zo_94 : zd_of 94 = some zI_94 := rfl
set_option maxRecDepth 100000 in
theorem zq_94 : zt_m[94]? = some (⟨"ColumnVault$Pairs", "rowOf", "(IZ)I"⟩, prog_9_method_5_code, 3, some (.int), [], 9, 2, 0, 0, 0, 0) := rfl
set_option maxHeartbeats 1000000 in
def f_Pairs_rowOf (p0 : Nat) (p1 : Int32) (p2 : Int32) (h : zx_H) : Option (Int32 × zx_H) :=
  if p1 < 0 then
    some ((-1 : Int32), h)
  else
    zf_b (zf_I 9 2 p0 h) fun v1 =>
    if p1 < v1 then
      if p2 = 0 then
        zf_b (zf_A 9 0 p0 h) fun v2 =>
        zf_b (zf_ldI v2 p1 h) fun v3 =>
        some (v3, h)
      else
        zf_b (zf_A 9 1 p0 h) fun v4 =>
        zf_b (zf_ldI v4 p1 h) fun v5 =>
        some (v5, h)
    else
      some ((-1 : Int32), h)
set_option maxHeartbeats 4000000 in
set_option maxRecDepth 400000 in
theorem t_f_Pairs_rowOf {sc : (Nat × (Nat → Int32)) × Bool} {d : Nat} (p0 : Nat) (p1 : Int32) (p2 : Int32) (h : zx_H) (r : Int32) (h' : zx_H) (hf : f_Pairs_rowOf p0 p1 p2 h = some (r, h')) : zx_T sc d 94 (0, [(0, .ref p0), (1, .int p1), (2, .int p2)], []) h (zf_oI r) h' := by
  unfold f_Pairs_rowOf at hf
  refine zv_p (k := 1) (f' := (1, [(0, .ref p0), (1, .int p1), (2, .int p2)], [.int p1])) zq_94 zo_94 (by with_unfolding_all rfl) ?_
  replace hf := zf_ite hf
  obtain ⟨hc, hf⟩ | ⟨hc, hf⟩ := hf
  · refine zv_brT (off := 11) (tt := 12) (r := []) zq_94 zo_94 hc rfl rfl rfl ?_
    refine zv_p (k := 1) (f' := (13, [(0, .ref p0), (1, .int p1), (2, .int p2)], [.int (-1 : Int32)])) zq_94 zo_94 (by with_unfolding_all rfl) ?_
    cases hf
    exact zv_rn zq_94 zo_94 rfl rfl
  · refine zv_brF (off := 11) (tt := 12) (r := []) zq_94 zo_94 hc rfl rfl rfl ?_
    refine zv_p (k := 2) (f' := (6, [(0, .ref p0), (1, .int p1), (2, .int p2)], [.ref p0, .int p1])) zq_94 zo_94 (by with_unfolding_all rfl) ?_
    replace hf := zf_be hf
    obtain ⟨v1, hv, hf⟩ := hf
    refine zv_gf zq_94 zo_94 rfl rfl rfl (zf_Ie hv) ?_
    replace hf := zf_ite hf
    obtain ⟨hc, hf⟩ | ⟨hc, hf⟩ := hf
    · refine zv_brT (off := 5) (tt := 14) (r := []) zq_94 zo_94 hc rfl rfl rfl ?_
      refine zv_p (k := 1) (f' := (15, [(0, .ref p0), (1, .int p1), (2, .int p2)], [.int p2])) zq_94 zo_94 (by with_unfolding_all rfl) ?_
      replace hf := zf_ite hf
      obtain ⟨hc, hf⟩ | ⟨hc, hf⟩ := hf
      · refine zv_brT (off := 12) (tt := 27) (r := []) zq_94 zo_94 hc rfl rfl rfl ?_
        refine zv_p (k := 1) (f' := (28, [(0, .ref p0), (1, .int p1), (2, .int p2)], [.ref p0])) zq_94 zo_94 (by with_unfolding_all rfl) ?_
        replace hf := zf_be hf
        obtain ⟨v2, hv, hf⟩ := hf
        refine zv_gf zq_94 zo_94 rfl rfl rfl (zf_Ae hv) ?_
        refine zv_p (k := 1) (f' := (32, [(0, .ref p0), (1, .int p1), (2, .int p2)], [.int p1, .ref v2])) zq_94 zo_94 (by with_unfolding_all rfl) ?_
        replace hf := zf_be hf
        obtain ⟨v3, hv, hf⟩ := hf
        refine zv_ldI zq_94 zo_94 rfl hv ?_
        cases hf
        exact zv_rn zq_94 zo_94 rfl rfl
      · refine zv_brF (off := 12) (tt := 27) (r := []) zq_94 zo_94 hc rfl rfl rfl ?_
        refine zv_p (k := 1) (f' := (19, [(0, .ref p0), (1, .int p1), (2, .int p2)], [.ref p0])) zq_94 zo_94 (by with_unfolding_all rfl) ?_
        replace hf := zf_be hf
        obtain ⟨v4, hv, hf⟩ := hf
        refine zv_gf zq_94 zo_94 rfl rfl rfl (zf_Ae hv) ?_
        refine zv_p (k := 1) (f' := (23, [(0, .ref p0), (1, .int p1), (2, .int p2)], [.int p1, .ref v4])) zq_94 zo_94 (by with_unfolding_all rfl) ?_
        replace hf := zf_be hf
        obtain ⟨v5, hv, hf⟩ := hf
        refine zv_ldI zq_94 zo_94 rfl hv ?_
        refine zv_p (k := 1) (f' := (33, [(0, .ref p0), (1, .int p1), (2, .int p2)], [.int v5])) zq_94 zo_94 (by with_unfolding_all rfl) ?_
        cases hf
        exact zv_rn zq_94 zo_94 rfl rfl
    · refine zv_brF (off := 5) (tt := 14) (r := []) zq_94 zo_94 hc rfl rfl rfl ?_
      refine zv_p (k := 1) (f' := (13, [(0, .ref p0), (1, .int p1), (2, .int p2)], [.int (-1 : Int32)])) zq_94 zo_94 (by with_unfolding_all rfl) ?_
      cases hf
      exact zv_rn zq_94 zo_94 rfl rfl
/-! ColumnVault.pairAt (IZ)I -/
noncomputable def zI_93 : zd_T := [[(0, .iload_n 1, 1), (1, .ifCond .lt 14, 3), (4, .iload_n 1, 1), (5, .aload_n 0, 1), (6, .getfield 35, 3), (9, .getfield 252, 3), (12, .if_icmp .lt 13, 3), (15, .new 153, 3), (18, .dup, 1), (19, .ldc 255, 2), (21, .invokespecial 157, 3), (24, .athrow, 1), (25, .aload_n 0, 1), (26, .getfield 35, 3), (29, .iload_n 1, 1), (30, .iload_n 2, 1), (31, .invokevirtual 257, 3)], [(34, .ireturn, 1)]]
theorem zo_93 : zd_of 93 = some zI_93 := rfl
set_option maxRecDepth 100000 in
theorem zq_93 : zt_m[93]? = some (⟨"ColumnVault", "pairAt", "(IZ)I"⟩, prog_1_method_26_code, 3, some (.int), [], 12, 2, 0, 0, 0, 0) := rfl
set_option maxHeartbeats 1000000 in
def f_ColumnVault_pairAt (p0 : Nat) (p1 : Int32) (p2 : Int32) (h : zx_H) : Option ((Int32 ⊕ Nat) × zx_H) :=
  if p1 < 0 then
    if h.length < zx_lim then some (.inr 13, h ++ [.inr (13, [])]) else none
  else
    zf_b (zf_A 12 3 p0 h) fun v1 =>
    zf_b (zf_I 9 2 v1 h) fun v2 =>
    if p1 < v2 then
      zf_b (zf_A 12 3 p0 h) fun v3 =>
      zf_b (zf_is 9 v3 h) fun _ =>
      zf_b2 (f_Pairs_rowOf v3 p1 p2 h) fun v4 h5 =>
      some (.inl v4, h5)
    else
      if h.length < zx_lim then some (.inr 13, h ++ [.inr (13, [])]) else none
set_option maxHeartbeats 4000000 in
set_option maxRecDepth 400000 in
theorem t_f_ColumnVault_pairAt {sc : (Nat × (Nat → Int32)) × Bool} {d : Nat} (p0 : Nat) (p1 : Int32) (p2 : Int32) (h : zx_H) (r : (Int32 ⊕ Nat)) (h' : zx_H) (hf : f_ColumnVault_pairAt p0 p1 p2 h = some (r, h')) : zx_T sc (d + 1) 93 (0, [(0, .ref p0), (1, .int p1), (2, .int p2)], []) h (zf_oIx r) h' := by
  unfold f_ColumnVault_pairAt at hf
  refine zv_p (k := 1) (f' := (1, [(0, .ref p0), (1, .int p1), (2, .int p2)], [.int p1])) zq_93 zo_93 (by with_unfolding_all rfl) ?_
  replace hf := zf_ite hf
  obtain ⟨hc, hf⟩ | ⟨hc, hf⟩ := hf
  · refine zv_brT (off := 14) (tt := 15) (r := []) zq_93 zo_93 hc rfl rfl rfl ?_
    replace hf := zf_ite hf
    obtain ⟨hc, hf⟩ | ⟨hc, hf⟩ := hf
    · cases hf; exact zv_t zq_93 zo_93 rfl rfl rfl rfl rfl rfl rfl rfl rfl hc
    · cases hf
  · refine zv_brF (off := 14) (tt := 15) (r := []) zq_93 zo_93 hc rfl rfl rfl ?_
    refine zv_p (k := 2) (f' := (6, [(0, .ref p0), (1, .int p1), (2, .int p2)], [.ref p0, .int p1])) zq_93 zo_93 (by with_unfolding_all rfl) ?_
    replace hf := zf_be hf
    obtain ⟨v1, hv, hf⟩ := hf
    refine zv_gf zq_93 zo_93 rfl rfl rfl (zf_Ae hv) ?_
    replace hf := zf_be hf
    obtain ⟨v2, hv, hf⟩ := hf
    refine zv_gf zq_93 zo_93 rfl rfl rfl (zf_Ie hv) ?_
    replace hf := zf_ite hf
    obtain ⟨hc, hf⟩ | ⟨hc, hf⟩ := hf
    · refine zv_brT (off := 13) (tt := 25) (r := []) zq_93 zo_93 hc rfl rfl rfl ?_
      refine zv_p (k := 1) (f' := (26, [(0, .ref p0), (1, .int p1), (2, .int p2)], [.ref p0])) zq_93 zo_93 (by with_unfolding_all rfl) ?_
      replace hf := zf_be hf
      obtain ⟨v3, hv, hf⟩ := hf
      refine zv_gf zq_93 zo_93 rfl rfl rfl (zf_Ae hv) ?_
      refine zv_p (k := 2) (f' := (31, [(0, .ref p0), (1, .int p1), (2, .int p2)], [.int p2, .int p1, .ref v3])) zq_93 zo_93 (by with_unfolding_all rfl) ?_
      replace hf := zf_be hf
      obtain ⟨_, ho, hf⟩ := hf
      replace hf := zf_b2e hf
      obtain ⟨v4, h5, hv, hf⟩ := hf
      refine zv_c zq_93 zo_93 rfl rfl rfl rfl rfl (zv_cv rfl rfl rfl (zf_ise ho) rfl) (t_f_Pairs_rowOf _ _ _ _ _ _ hv) ?_
      cases hf
      exact zv_rn zq_93 zo_93 rfl rfl
    · refine zv_brF (off := 13) (tt := 25) (r := []) zq_93 zo_93 hc rfl rfl rfl ?_
      replace hf := zf_ite hf
      obtain ⟨hc, hf⟩ | ⟨hc, hf⟩ := hf
      · cases hf; exact zv_t zq_93 zo_93 rfl rfl rfl rfl rfl rfl rfl rfl rfl hc
      · cases hf
/-! ColumnVault.requireGroup (I)V -/
noncomputable def zI_96 : zd_T := [[(0, .iload_n 1, 1), (1, .ifCond .lt 14, 3), (4, .iload_n 1, 1), (5, .aload_n 0, 1), (6, .getfield 42, 3), (9, .getfield 271, 3), (12, .if_icmp .lt 14, 3), (15, .new 153, 3), (18, .dup, 1), (19, .ldc_w 366, 3), (22, .invokespecial 157, 3), (25, .athrow, 1), (26, .return_, 1)]]
theorem zo_96 : zd_of 96 = some zI_96 := rfl
set_option maxRecDepth 100000 in
theorem zq_96 : zt_m[96]? = some (⟨"ColumnVault", "requireGroup", "(I)V"⟩, prog_1_method_46_code, 2, none, [], 12, 1, 0, 0, 0, 0) := rfl
set_option maxHeartbeats 1000000 in
def f_ColumnVault_requireGroup (p0 : Nat) (p1 : Int32) (h : zx_H) : Option ((Unit ⊕ Nat) × zx_H) :=
  if p1 < 0 then
    if h.length < zx_lim then some (.inr 13, h ++ [.inr (13, [])]) else none
  else
    zf_b (zf_A 12 4 p0 h) fun v1 =>
    zf_b (zf_I 5 4 v1 h) fun v2 =>
    if p1 < v2 then
      some (.inl (), h)
    else
      if h.length < zx_lim then some (.inr 13, h ++ [.inr (13, [])]) else none
set_option maxHeartbeats 4000000 in
set_option maxRecDepth 400000 in
theorem t_f_ColumnVault_requireGroup {sc : (Nat × (Nat → Int32)) × Bool} {d : Nat} (p0 : Nat) (p1 : Int32) (h : zx_H) (r : (Unit ⊕ Nat)) (h' : zx_H) (hf : f_ColumnVault_requireGroup p0 p1 h = some (r, h')) : zx_T sc d 96 (0, [(0, .ref p0), (1, .int p1)], []) h (zf_oVx r) h' := by
  unfold f_ColumnVault_requireGroup at hf
  refine zv_p (k := 1) (f' := (1, [(0, .ref p0), (1, .int p1)], [.int p1])) zq_96 zo_96 (by with_unfolding_all rfl) ?_
  replace hf := zf_ite hf
  obtain ⟨hc, hf⟩ | ⟨hc, hf⟩ := hf
  · refine zv_brT (off := 14) (tt := 15) (r := []) zq_96 zo_96 hc rfl rfl rfl ?_
    replace hf := zf_ite hf
    obtain ⟨hc, hf⟩ | ⟨hc, hf⟩ := hf
    · cases hf; exact zv_tw zq_96 zo_96 rfl rfl rfl rfl rfl rfl rfl rfl rfl hc
    · cases hf
  · refine zv_brF (off := 14) (tt := 15) (r := []) zq_96 zo_96 hc rfl rfl rfl ?_
    refine zv_p (k := 2) (f' := (6, [(0, .ref p0), (1, .int p1)], [.ref p0, .int p1])) zq_96 zo_96 (by with_unfolding_all rfl) ?_
    replace hf := zf_be hf
    obtain ⟨v1, hv, hf⟩ := hf
    refine zv_gf zq_96 zo_96 rfl rfl rfl (zf_Ae hv) ?_
    replace hf := zf_be hf
    obtain ⟨v2, hv, hf⟩ := hf
    refine zv_gf zq_96 zo_96 rfl rfl rfl (zf_Ie hv) ?_
    replace hf := zf_ite hf
    obtain ⟨hc, hf⟩ | ⟨hc, hf⟩ := hf
    · refine zv_brT (off := 14) (tt := 26) (r := []) zq_96 zo_96 hc rfl rfl rfl ?_
      cases hf
      exact zv_r zq_96 zo_96 rfl rfl rfl rfl rfl
    · refine zv_brF (off := 14) (tt := 26) (r := []) zq_96 zo_96 hc rfl rfl rfl ?_
      replace hf := zf_ite hf
      obtain ⟨hc, hf⟩ | ⟨hc, hf⟩ := hf
      · cases hf; exact zv_tw zq_96 zo_96 rfl rfl rfl rfl rfl rfl rfl rfl rfl hc
      · cases hf
/-! ColumnVault$Groups.keyOfGroup (I)J -/
noncomputable def zI_98 : zd_T := [[(0, .iload_n 1, 1), (1, .ifCond .lt 20, 3), (4, .iload_n 1, 1), (5, .aload_n 0, 1), (6, .getfield 29, 3), (9, .if_icmp .ge 12, 3), (12, .aload_n 0, 1), (13, .getfield 18, 3), (16, .iload_n 1, 1), (17, .laload, 1), (18, .goto 6, 3), (21, .ldc2_w 63, 3), (24, .lreturn, 1)]]
theorem zo_98 : zd_of 98 = some zI_98 := rfl
set_option maxRecDepth 100000 in
theorem zq_98 : zt_m[98]? = some (⟨"ColumnVault$Groups", "keyOfGroup", "(I)J"⟩, prog_5_method_5_code, 2, some (.long), [], 5, 1, 0, 0, 0, 0) := rfl
set_option maxHeartbeats 1000000 in
def f_Groups_keyOfGroup (p0 : Nat) (p1 : Int32) (h : zx_H) : Option (Int64 × zx_H) :=
  if p1 < 0 then
    some ((-9000000000 : Int64), h)
  else
    zf_b (zf_I 5 4 p0 h) fun v1 =>
    if v1 ≤ p1 then
      some ((-9000000000 : Int64), h)
    else
      zf_b (zf_A 5 1 p0 h) fun v2 =>
      zf_b (zf_ldJ v2 p1 h) fun v3 =>
      some (v3, h)
set_option maxHeartbeats 4000000 in
set_option maxRecDepth 400000 in
theorem t_f_Groups_keyOfGroup {sc : (Nat × (Nat → Int32)) × Bool} {d : Nat} (p0 : Nat) (p1 : Int32) (h : zx_H) (r : Int64) (h' : zx_H) (hf : f_Groups_keyOfGroup p0 p1 h = some (r, h')) : zx_T sc d 98 (0, [(0, .ref p0), (1, .int p1)], []) h (zf_oJ r) h' := by
  unfold f_Groups_keyOfGroup at hf
  refine zv_p (k := 1) (f' := (1, [(0, .ref p0), (1, .int p1)], [.int p1])) zq_98 zo_98 (by with_unfolding_all rfl) ?_
  replace hf := zf_ite hf
  obtain ⟨hc, hf⟩ | ⟨hc, hf⟩ := hf
  · refine zv_brT (off := 20) (tt := 21) (r := []) zq_98 zo_98 hc rfl rfl rfl ?_
    refine zv_lng zq_98 zo_98 rfl rfl ?_
    cases hf
    exact zv_r zq_98 zo_98 rfl rfl rfl rfl rfl
  · refine zv_brF (off := 20) (tt := 21) (r := []) zq_98 zo_98 hc rfl rfl rfl ?_
    refine zv_p (k := 2) (f' := (6, [(0, .ref p0), (1, .int p1)], [.ref p0, .int p1])) zq_98 zo_98 (by with_unfolding_all rfl) ?_
    replace hf := zf_be hf
    obtain ⟨v1, hv, hf⟩ := hf
    refine zv_gf zq_98 zo_98 rfl rfl rfl (zf_Ie hv) ?_
    replace hf := zf_ite hf
    obtain ⟨hc, hf⟩ | ⟨hc, hf⟩ := hf
    · refine zv_brT (off := 12) (tt := 21) (r := []) zq_98 zo_98 hc rfl rfl rfl ?_
      refine zv_lng zq_98 zo_98 rfl rfl ?_
      cases hf
      exact zv_r zq_98 zo_98 rfl rfl rfl rfl rfl
    · refine zv_brF (off := 12) (tt := 21) (r := []) zq_98 zo_98 hc rfl rfl rfl ?_
      refine zv_p (k := 1) (f' := (13, [(0, .ref p0), (1, .int p1)], [.ref p0])) zq_98 zo_98 (by with_unfolding_all rfl) ?_
      replace hf := zf_be hf
      obtain ⟨v2, hv, hf⟩ := hf
      refine zv_gf zq_98 zo_98 rfl rfl rfl (zf_Ae hv) ?_
      refine zv_p (k := 1) (f' := (17, [(0, .ref p0), (1, .int p1)], [.int p1, .ref v2])) zq_98 zo_98 (by with_unfolding_all rfl) ?_
      replace hf := zf_be hf
      obtain ⟨v3, hv, hf⟩ := hf
      refine zv_ldJ zq_98 zo_98 rfl hv ?_
      refine zv_p (k := 1) (f' := (24, [(0, .ref p0), (1, .int p1)], [.long v3])) zq_98 zo_98 (by with_unfolding_all rfl) ?_
      cases hf
      exact zv_r zq_98 zo_98 rfl rfl rfl rfl rfl
/-! ColumnVault$Groups.valueAt (I)J -/
noncomputable def zI_97 : zd_T := [[(0, .aload_n 0, 1), (1, .getfield 12, 3), (4, .aload_n 0, 1), (5, .getfield 25, 3), (8, .invokevirtual 65, 3), (11, .aload_n 0, 1), (12, .iload_n 1, 1), (13, .invokevirtual 69, 3), (16, .invokestatic 73, 3), (19, .lreturn, 1)]]
theorem zo_97 : zd_of 97 = some zI_97 := rfl
set_option maxRecDepth 100000 in
theorem zq_97 : zt_m[97]? = some (⟨"ColumnVault$Groups", "valueAt", "(I)J"⟩, prog_5_method_6_code, 2, some (.long), [], 5, 1, 0, 0, 0, 0) := rfl
