set_option maxHeartbeats 1000000 in
def f_ColumnVaultLaw_test_109 (p0 : Nat) (p1 : Nat) (p2 : Int32) (p3 : Nat) (p4 : Int32) (p5 : Int32) (p6 : Int32) (p7 : Int32) (p8 : Nat) (p9 : Nat) (p10 : Nat) (h : zx_H) : Option ((Nat ⊕ Nat) × zx_H) :=
  zf_b (zf_is 1 p9 h) fun _ =>
  zf_b2 (f_StringBuilder_appendq3 p9 p10 h) fun v1 h2 =>
  if ¬ p6 = 0 then
    if ¬ p6 = (1 : Int32) then
      if ¬ p6 = (2 : Int32) then
        if ¬ p6 = (3 : Int32) then
          if ¬ p6 = (4 : Int32) then
            zf_b (zf_is 1 v1 h2) fun _ =>
            zf_b2 (f_StringBuilder_appendq3 v1 (zx_lim + 1 + 616) h2) fun v3 h4 =>
            f_ColumnVaultLaw_test_175 zF p0 p1 p2 p3 p4 p5 p6 p7 p8 (0 : Int32) h4
          else
            zf_b (zf_is 1 v1 h2) fun _ =>
            zf_b2 (f_StringBuilder_appendq3 v1 (zx_lim + 1 + 614) h2) fun v5 h6 =>
            f_ColumnVaultLaw_test_175 zF p0 p1 p2 p3 p4 p5 p6 p7 p8 (0 : Int32) h6
        else
          zf_b (zf_is 1 v1 h2) fun _ =>
          zf_b2 (f_StringBuilder_appendq3 v1 (zx_lim + 1 + 612) h2) fun v7 h8 =>
          f_ColumnVaultLaw_test_175 zF p0 p1 p2 p3 p4 p5 p6 p7 p8 (0 : Int32) h8
      else
        zf_b (zf_is 1 v1 h2) fun _ =>
        zf_b2 (f_StringBuilder_appendq3 v1 (zx_lim + 1 + 610) h2) fun v9 h10 =>
        f_ColumnVaultLaw_test_175 zF p0 p1 p2 p3 p4 p5 p6 p7 p8 (0 : Int32) h10
    else
      zf_b (zf_is 1 v1 h2) fun _ =>
      zf_b2 (f_StringBuilder_appendq3 v1 (zx_lim + 1 + 608) h2) fun v11 h12 =>
      f_ColumnVaultLaw_test_175 zF p0 p1 p2 p3 p4 p5 p6 p7 p8 (0 : Int32) h12
  else
    zf_b (zf_is 1 v1 h2) fun _ =>
    zf_b2 (f_StringBuilder_appendq3 v1 (zx_lim + 1 + 606) h2) fun v13 h14 =>
    f_ColumnVaultLaw_test_175 zF p0 p1 p2 p3 p4 p5 p6 p7 p8 (0 : Int32) h14
set_option maxHeartbeats 4000000 in
set_option maxRecDepth 400000 in
theorem t_f_ColumnVaultLaw_test_109 {sc : (Nat × (Nat → Int32)) × Bool} {d : Nat} (p0 : Nat) (p1 : Nat) (p2 : Int32) (p3 : Nat) (p4 : Int32) (p5 : Int32) (p6 : Int32) (p7 : Int32) (p8 : Nat) (p9 : Nat) (p10 : Nat) (h : zx_H) (r : (Nat ⊕ Nat)) (h' : zx_H) (hf : f_ColumnVaultLaw_test_109 p0 p1 p2 p3 p4 p5 p6 p7 p8 p9 p10 h = some (r, h')) : zx_T sc (d + 8) 262 (109, [(0, .ref p0), (1, .ref p1), (2, .int p2), (3, .ref p3), (5, .int p4), (6, .int p5), (7, .int p6), (8, .int p7), (9, .ref p8)], [.ref p10, .ref p9]) h (zf_oAx r) h' := by
  unfold f_ColumnVaultLaw_test_109 at hf
  replace hf := zf_be hf
  obtain ⟨_, ho, hf⟩ := hf
  replace hf := zf_b2e hf
  obtain ⟨v1, h2, hv, hf⟩ := hf
  refine zv_c zq_262 zo_262 rfl rfl rfl rfl rfl (zv_cv rfl rfl rfl (zf_ise ho) rfl) (t_f_StringBuilder_appendq3 _ _ _ _ _ hv) ?_
  refine zv_p (k := 1) (f' := (114, [(0, .ref p0), (1, .ref p1), (2, .int p2), (3, .ref p3), (5, .int p4), (6, .int p5), (7, .int p6), (8, .int p7), (9, .ref p8)], [.int p6, .ref v1])) zq_262 zo_262 (by with_unfolding_all rfl) ?_
  replace hf := zf_ite hf
  obtain ⟨hc, hf⟩ | ⟨hc, hf⟩ := hf
  · refine zv_brT (off := 8) (tt := 122) (r := [.ref v1]) zq_262 zo_262 hc rfl rfl rfl ?_
    refine zv_p (k := 2) (f' := (125, [(0, .ref p0), (1, .ref p1), (2, .int p2), (3, .ref p3), (5, .int p4), (6, .int p5), (7, .int p6), (8, .int p7), (9, .ref p8)], [.int (1 : Int32), .int p6, .ref v1])) zq_262 zo_262 (by with_unfolding_all rfl) ?_
    replace hf := zf_ite hf
    obtain ⟨hc, hf⟩ | ⟨hc, hf⟩ := hf
    · refine zv_brT (off := 8) (tt := 133) (r := [.ref v1]) zq_262 zo_262 hc rfl rfl rfl ?_
      refine zv_p (k := 2) (f' := (136, [(0, .ref p0), (1, .ref p1), (2, .int p2), (3, .ref p3), (5, .int p4), (6, .int p5), (7, .int p6), (8, .int p7), (9, .ref p8)], [.int (2 : Int32), .int p6, .ref v1])) zq_262 zo_262 (by with_unfolding_all rfl) ?_
      replace hf := zf_ite hf
      obtain ⟨hc, hf⟩ | ⟨hc, hf⟩ := hf
      · refine zv_brT (off := 8) (tt := 144) (r := [.ref v1]) zq_262 zo_262 hc rfl rfl rfl ?_
        refine zv_p (k := 2) (f' := (147, [(0, .ref p0), (1, .ref p1), (2, .int p2), (3, .ref p3), (5, .int p4), (6, .int p5), (7, .int p6), (8, .int p7), (9, .ref p8)], [.int (3 : Int32), .int p6, .ref v1])) zq_262 zo_262 (by with_unfolding_all rfl) ?_
        replace hf := zf_ite hf
        obtain ⟨hc, hf⟩ | ⟨hc, hf⟩ := hf
        · refine zv_brT (off := 8) (tt := 155) (r := [.ref v1]) zq_262 zo_262 hc rfl rfl rfl ?_
          refine zv_p (k := 2) (f' := (158, [(0, .ref p0), (1, .ref p1), (2, .int p2), (3, .ref p3), (5, .int p4), (6, .int p5), (7, .int p6), (8, .int p7), (9, .ref p8)], [.int (4 : Int32), .int p6, .ref v1])) zq_262 zo_262 (by with_unfolding_all rfl) ?_
          replace hf := zf_ite hf
          obtain ⟨hc, hf⟩ | ⟨hc, hf⟩ := hf
          · refine zv_brT (off := 8) (tt := 166) (r := [.ref v1]) zq_262 zo_262 hc rfl rfl rfl ?_
            refine zv_str zq_262 zo_262 rfl rfl ?_
            replace hf := zf_be hf
            obtain ⟨_, ho, hf⟩ := hf
            replace hf := zf_b2e hf
            obtain ⟨v3, h4, hv, hf⟩ := hf
            refine zv_c zq_262 zo_262 rfl rfl rfl rfl rfl (zv_cv rfl rfl rfl (zf_ise ho) rfl) (t_f_StringBuilder_appendq3 _ _ _ _ _ hv) ?_
            refine zv_p (k := 3) (f' := (175, [(10, .int (0 : Int32)), (0, .ref p0), (1, .ref p1), (2, .int p2), (3, .ref p3), (5, .int p4), (6, .int p5), (7, .int p6), (8, .int p7), (9, .ref p8)], [])) zq_262 zo_262 (by with_unfolding_all rfl) ?_
            refine zv_pick (lv' := [(0, .ref p0), (1, .ref p1), (2, .int p2), (3, .ref p3), (5, .int p4), (6, .int p5), (7, .int p6), (8, .int p7), (9, .ref p8), (10, .int (0 : Int32))]) [0, 1, 2, 3, 5, 6, 7, 8, 9, 10] rfl rfl ?_
            exact t_f_ColumnVaultLaw_test_175 zF _ _ _ _ _ _ _ _ _ _ _ _ _ hf
          · refine zv_brF (off := 8) (tt := 166) (r := [.ref v1]) zq_262 zo_262 hc rfl rfl rfl ?_
            refine zv_str zq_262 zo_262 rfl rfl ?_
            refine zv_p (k := 1) (f' := (168, [(0, .ref p0), (1, .ref p1), (2, .int p2), (3, .ref p3), (5, .int p4), (6, .int p5), (7, .int p6), (8, .int p7), (9, .ref p8)], [.ref (zx_lim + 1 + 614), .ref v1])) zq_262 zo_262 (by with_unfolding_all rfl) ?_
            replace hf := zf_be hf
            obtain ⟨_, ho, hf⟩ := hf
            replace hf := zf_b2e hf
            obtain ⟨v5, h6, hv, hf⟩ := hf
            refine zv_c zq_262 zo_262 rfl rfl rfl rfl rfl (zv_cv rfl rfl rfl (zf_ise ho) rfl) (t_f_StringBuilder_appendq3 _ _ _ _ _ hv) ?_
            refine zv_p (k := 3) (f' := (175, [(10, .int (0 : Int32)), (0, .ref p0), (1, .ref p1), (2, .int p2), (3, .ref p3), (5, .int p4), (6, .int p5), (7, .int p6), (8, .int p7), (9, .ref p8)], [])) zq_262 zo_262 (by with_unfolding_all rfl) ?_
            refine zv_pick (lv' := [(0, .ref p0), (1, .ref p1), (2, .int p2), (3, .ref p3), (5, .int p4), (6, .int p5), (7, .int p6), (8, .int p7), (9, .ref p8), (10, .int (0 : Int32))]) [0, 1, 2, 3, 5, 6, 7, 8, 9, 10] rfl rfl ?_
            exact t_f_ColumnVaultLaw_test_175 zF _ _ _ _ _ _ _ _ _ _ _ _ _ hf
        · refine zv_brF (off := 8) (tt := 155) (r := [.ref v1]) zq_262 zo_262 hc rfl rfl rfl ?_
          refine zv_str zq_262 zo_262 rfl rfl ?_
          refine zv_p (k := 1) (f' := (168, [(0, .ref p0), (1, .ref p1), (2, .int p2), (3, .ref p3), (5, .int p4), (6, .int p5), (7, .int p6), (8, .int p7), (9, .ref p8)], [.ref (zx_lim + 1 + 612), .ref v1])) zq_262 zo_262 (by with_unfolding_all rfl) ?_
          replace hf := zf_be hf
          obtain ⟨_, ho, hf⟩ := hf
          replace hf := zf_b2e hf
          obtain ⟨v7, h8, hv, hf⟩ := hf
          refine zv_c zq_262 zo_262 rfl rfl rfl rfl rfl (zv_cv rfl rfl rfl (zf_ise ho) rfl) (t_f_StringBuilder_appendq3 _ _ _ _ _ hv) ?_
          refine zv_p (k := 3) (f' := (175, [(10, .int (0 : Int32)), (0, .ref p0), (1, .ref p1), (2, .int p2), (3, .ref p3), (5, .int p4), (6, .int p5), (7, .int p6), (8, .int p7), (9, .ref p8)], [])) zq_262 zo_262 (by with_unfolding_all rfl) ?_
          refine zv_pick (lv' := [(0, .ref p0), (1, .ref p1), (2, .int p2), (3, .ref p3), (5, .int p4), (6, .int p5), (7, .int p6), (8, .int p7), (9, .ref p8), (10, .int (0 : Int32))]) [0, 1, 2, 3, 5, 6, 7, 8, 9, 10] rfl rfl ?_
          exact t_f_ColumnVaultLaw_test_175 zF _ _ _ _ _ _ _ _ _ _ _ _ _ hf
      · refine zv_brF (off := 8) (tt := 144) (r := [.ref v1]) zq_262 zo_262 hc rfl rfl rfl ?_
        refine zv_str zq_262 zo_262 rfl rfl ?_
        refine zv_p (k := 1) (f' := (168, [(0, .ref p0), (1, .ref p1), (2, .int p2), (3, .ref p3), (5, .int p4), (6, .int p5), (7, .int p6), (8, .int p7), (9, .ref p8)], [.ref (zx_lim + 1 + 610), .ref v1])) zq_262 zo_262 (by with_unfolding_all rfl) ?_
        replace hf := zf_be hf
        obtain ⟨_, ho, hf⟩ := hf
        replace hf := zf_b2e hf
        obtain ⟨v9, h10, hv, hf⟩ := hf
        refine zv_c zq_262 zo_262 rfl rfl rfl rfl rfl (zv_cv rfl rfl rfl (zf_ise ho) rfl) (t_f_StringBuilder_appendq3 _ _ _ _ _ hv) ?_
        refine zv_p (k := 3) (f' := (175, [(10, .int (0 : Int32)), (0, .ref p0), (1, .ref p1), (2, .int p2), (3, .ref p3), (5, .int p4), (6, .int p5), (7, .int p6), (8, .int p7), (9, .ref p8)], [])) zq_262 zo_262 (by with_unfolding_all rfl) ?_
        refine zv_pick (lv' := [(0, .ref p0), (1, .ref p1), (2, .int p2), (3, .ref p3), (5, .int p4), (6, .int p5), (7, .int p6), (8, .int p7), (9, .ref p8), (10, .int (0 : Int32))]) [0, 1, 2, 3, 5, 6, 7, 8, 9, 10] rfl rfl ?_
        exact t_f_ColumnVaultLaw_test_175 zF _ _ _ _ _ _ _ _ _ _ _ _ _ hf
    · refine zv_brF (off := 8) (tt := 133) (r := [.ref v1]) zq_262 zo_262 hc rfl rfl rfl ?_
      refine zv_str zq_262 zo_262 rfl rfl ?_
      refine zv_p (k := 1) (f' := (168, [(0, .ref p0), (1, .ref p1), (2, .int p2), (3, .ref p3), (5, .int p4), (6, .int p5), (7, .int p6), (8, .int p7), (9, .ref p8)], [.ref (zx_lim + 1 + 608), .ref v1])) zq_262 zo_262 (by with_unfolding_all rfl) ?_
      replace hf := zf_be hf
      obtain ⟨_, ho, hf⟩ := hf
      replace hf := zf_b2e hf
      obtain ⟨v11, h12, hv, hf⟩ := hf
      refine zv_c zq_262 zo_262 rfl rfl rfl rfl rfl (zv_cv rfl rfl rfl (zf_ise ho) rfl) (t_f_StringBuilder_appendq3 _ _ _ _ _ hv) ?_
      refine zv_p (k := 3) (f' := (175, [(10, .int (0 : Int32)), (0, .ref p0), (1, .ref p1), (2, .int p2), (3, .ref p3), (5, .int p4), (6, .int p5), (7, .int p6), (8, .int p7), (9, .ref p8)], [])) zq_262 zo_262 (by with_unfolding_all rfl) ?_
      refine zv_pick (lv' := [(0, .ref p0), (1, .ref p1), (2, .int p2), (3, .ref p3), (5, .int p4), (6, .int p5), (7, .int p6), (8, .int p7), (9, .ref p8), (10, .int (0 : Int32))]) [0, 1, 2, 3, 5, 6, 7, 8, 9, 10] rfl rfl ?_
      exact t_f_ColumnVaultLaw_test_175 zF _ _ _ _ _ _ _ _ _ _ _ _ _ hf
  · refine zv_brF (off := 8) (tt := 122) (r := [.ref v1]) zq_262 zo_262 hc rfl rfl rfl ?_
    refine zv_str zq_262 zo_262 rfl rfl ?_
    refine zv_p (k := 1) (f' := (168, [(0, .ref p0), (1, .ref p1), (2, .int p2), (3, .ref p3), (5, .int p4), (6, .int p5), (7, .int p6), (8, .int p7), (9, .ref p8)], [.ref (zx_lim + 1 + 606), .ref v1])) zq_262 zo_262 (by with_unfolding_all rfl) ?_
    replace hf := zf_be hf
    obtain ⟨_, ho, hf⟩ := hf
    replace hf := zf_b2e hf
    obtain ⟨v13, h14, hv, hf⟩ := hf
    refine zv_c zq_262 zo_262 rfl rfl rfl rfl rfl (zv_cv rfl rfl rfl (zf_ise ho) rfl) (t_f_StringBuilder_appendq3 _ _ _ _ _ hv) ?_
    refine zv_p (k := 3) (f' := (175, [(10, .int (0 : Int32)), (0, .ref p0), (1, .ref p1), (2, .int p2), (3, .ref p3), (5, .int p4), (6, .int p5), (7, .int p6), (8, .int p7), (9, .ref p8)], [])) zq_262 zo_262 (by with_unfolding_all rfl) ?_
    refine zv_pick (lv' := [(0, .ref p0), (1, .ref p1), (2, .int p2), (3, .ref p3), (5, .int p4), (6, .int p5), (7, .int p6), (8, .int p7), (9, .ref p8), (10, .int (0 : Int32))]) [0, 1, 2, 3, 5, 6, 7, 8, 9, 10] rfl rfl ?_
    exact t_f_ColumnVaultLaw_test_175 zF _ _ _ _ _ _ _ _ _ _ _ _ _ hf
set_option maxHeartbeats 1000000 in
def f_ColumnVaultLaw_test_75 (p0 : Nat) (p1 : Nat) (p2 : Int32) (p3 : Nat) (p4 : Int32) (p5 : Int32) (p6 : Int32) (p7 : Int32) (h : zx_H) : Option ((Nat ⊕ Nat) × zx_H) :=
  zf_b2 (zf_newa .long 2 p7 h) fun q1 h2 =>
  zf_b (zf_is 1 p3 h2) fun _ =>
  zf_b2 (f_StringBuilder_appendq3 p3 (zx_lim + 1 + 600) h2) fun v3 h4 =>
  zf_b (zf_is 1 v3 h4) fun _ =>
  zf_b2 (f_StringBuilder_appendq2 v3 p4 h4) fun v5 h6 =>
  zf_b2 (f_ColumnVaultLaw_draw p0 (2 : Int32) h6) fun v7 h8 =>
  if ¬ v7 = 0 then
    f_ColumnVaultLaw_test_109 p0 p1 p2 p3 p4 p5 p6 p7 q1 v5 (zx_lim + 1 + 604) h8
  else
    f_ColumnVaultLaw_test_109 p0 p1 p2 p3 p4 p5 p6 p7 q1 v5 (zx_lim + 1 + 602) h8
set_option maxHeartbeats 4000000 in
set_option maxRecDepth 400000 in
theorem t_f_ColumnVaultLaw_test_75 {sc : (Nat × (Nat → Int32)) × Bool} {d : Nat} (p0 : Nat) (p1 : Nat) (p2 : Int32) (p3 : Nat) (p4 : Int32) (p5 : Int32) (p6 : Int32) (p7 : Int32) (h : zx_H) (r : (Nat ⊕ Nat)) (h' : zx_H) (hf : f_ColumnVaultLaw_test_75 p0 p1 p2 p3 p4 p5 p6 p7 h = some (r, h')) : zx_T sc (d + 8) 262 (75, [(0, .ref p0), (1, .ref p1), (2, .int p2), (3, .ref p3), (5, .int p4), (6, .int p5), (7, .int p6)], [.int p7]) h (zf_oAx r) h' := by
  unfold f_ColumnVaultLaw_test_75 at hf
  refine zv_p (k := 2) (f' := (79, [(8, .int p7), (0, .ref p0), (1, .ref p1), (2, .int p2), (3, .ref p3), (5, .int p4), (6, .int p5), (7, .int p6)], [.int p7])) zq_262 zo_262 (by with_unfolding_all rfl) ?_
  replace hf := zf_b2e hf
  obtain ⟨q1, h2, hv, hf⟩ := hf
  refine zv_newa zq_262 zo_262 rfl rfl hv ?_
  refine zv_p (k := 2) (f' := (84, [(9, .ref q1), (8, .int p7), (0, .ref p0), (1, .ref p1), (2, .int p2), (3, .ref p3), (5, .int p4), (6, .int p5), (7, .int p6)], [.ref p3])) zq_262 zo_262 (by with_unfolding_all rfl) ?_
  refine zv_str zq_262 zo_262 rfl rfl ?_
  replace hf := zf_be hf
  obtain ⟨_, ho, hf⟩ := hf
  replace hf := zf_b2e hf
  obtain ⟨v3, h4, hv, hf⟩ := hf
  refine zv_c zq_262 zo_262 rfl rfl rfl rfl rfl (zv_cv rfl rfl rfl (zf_ise ho) rfl) (t_f_StringBuilder_appendq3 _ _ _ _ _ hv) ?_
  refine zv_p (k := 1) (f' := (91, [(9, .ref q1), (8, .int p7), (0, .ref p0), (1, .ref p1), (2, .int p2), (3, .ref p3), (5, .int p4), (6, .int p5), (7, .int p6)], [.int p4, .ref v3])) zq_262 zo_262 (by with_unfolding_all rfl) ?_
  replace hf := zf_be hf
  obtain ⟨_, ho, hf⟩ := hf
  replace hf := zf_b2e hf
  obtain ⟨v5, h6, hv, hf⟩ := hf
  refine zv_c zq_262 zo_262 rfl rfl rfl rfl rfl (zv_cv rfl rfl rfl (zf_ise ho) rfl) (t_f_StringBuilder_appendq2 _ _ _ _ _ hv) ?_
  refine zv_p (k := 2) (f' := (96, [(9, .ref q1), (8, .int p7), (0, .ref p0), (1, .ref p1), (2, .int p2), (3, .ref p3), (5, .int p4), (6, .int p5), (7, .int p6)], [.int (2 : Int32), .ref p0, .ref v5])) zq_262 zo_262 (by with_unfolding_all rfl) ?_
  replace hf := zf_b2e hf
  obtain ⟨v7, h8, hv, hf⟩ := hf
  refine zv_c zq_262 zo_262 rfl rfl rfl rfl rfl rfl (t_f_ColumnVaultLaw_draw _ _ _ _ _ hv) ?_
  replace hf := zf_ite hf
  obtain ⟨hc, hf⟩ | ⟨hc, hf⟩ := hf
  · refine zv_brT (off := 8) (tt := 107) (r := [.ref v5]) zq_262 zo_262 hc rfl rfl rfl ?_
    refine zv_str zq_262 zo_262 rfl rfl ?_
    refine zv_pick (lv' := [(0, .ref p0), (1, .ref p1), (2, .int p2), (3, .ref p3), (5, .int p4), (6, .int p5), (7, .int p6), (8, .int p7), (9, .ref q1)]) [0, 1, 2, 3, 5, 6, 7, 8, 9] rfl rfl ?_
    exact t_f_ColumnVaultLaw_test_109 _ _ _ _ _ _ _ _ _ _ _ _ _ _ hf
  · refine zv_brF (off := 8) (tt := 107) (r := [.ref v5]) zq_262 zo_262 hc rfl rfl rfl ?_
    refine zv_str zq_262 zo_262 rfl rfl ?_
    refine zv_p (k := 1) (f' := (109, [(9, .ref q1), (8, .int p7), (0, .ref p0), (1, .ref p1), (2, .int p2), (3, .ref p3), (5, .int p4), (6, .int p5), (7, .int p6)], [.ref (zx_lim + 1 + 602), .ref v5])) zq_262 zo_262 (by with_unfolding_all rfl) ?_
    refine zv_pick (lv' := [(0, .ref p0), (1, .ref p1), (2, .int p2), (3, .ref p3), (5, .int p4), (6, .int p5), (7, .int p6), (8, .int p7), (9, .ref q1)]) [0, 1, 2, 3, 5, 6, 7, 8, 9] rfl rfl ?_
    exact t_f_ColumnVaultLaw_test_109 _ _ _ _ _ _ _ _ _ _ _ _ _ _ hf
set_option maxHeartbeats 1000000 in
def f_ColumnVaultLaw_test (p0 : Nat) (p1 : Nat) (p2 : Int32) (p3 : Nat) (p4 : Nat) (h : zx_H) : Option ((Nat ⊕ Nat) × zx_H) :=
  zf_b (zf_ldI p4 (0 : Int32) h) fun v1 =>
  zf_b (zf_stI p4 (0 : Int32) (v1 + (1 : Int32)) h) fun h2 =>
  zf_b (zf_is 12 p1 h2) fun _ =>
  zf_b3 (f_ColumnVault_size p1 p2 (1 : Int32) h2) fun v3 h4 =>
  zf_b2 (f_ColumnVaultLaw_draw p0 v3 h4) fun v6 h7 =>
  zf_b (zf_is 12 p1 h7) fun _ =>
  zf_b3 (f_ColumnVault_kind p1 p2 v6 h7) fun v8 h9 =>
  zf_b2 (f_ColumnVaultLaw_draw p0 (6 : Int32) h9) fun v11 h12 =>
  if (3 : Int32) ≤ v11 then
    if ¬ v11 = (3 : Int32) then
      if ¬ v11 = (4 : Int32) then
        f_ColumnVaultLaw_test_75 p0 p1 p2 p3 v6 v8 v11 (0 : Int32) h12
      else
        zf_b2 (f_ColumnVaultLaw_draw p0 (6 : Int32) h12) fun v13 h14 =>
        f_ColumnVaultLaw_test_75 p0 p1 p2 p3 v6 v8 v11 ((1 : Int32) + v13) h14
    else
      f_ColumnVaultLaw_test_75 p0 p1 p2 p3 v6 v8 v11 (2 : Int32) h12
  else
    f_ColumnVaultLaw_test_75 p0 p1 p2 p3 v6 v8 v11 (1 : Int32) h12
set_option maxHeartbeats 4000000 in
set_option maxRecDepth 400000 in
theorem t_f_ColumnVaultLaw_test {sc : (Nat × (Nat → Int32)) × Bool} {d : Nat} (p0 : Nat) (p1 : Nat) (p2 : Int32) (p3 : Nat) (p4 : Nat) (h : zx_H) (r : (Nat ⊕ Nat)) (h' : zx_H) (hf : f_ColumnVaultLaw_test p0 p1 p2 p3 p4 h = some (r, h')) : zx_T sc (d + 8) 262 (0, [(0, .ref p0), (1, .ref p1), (2, .int p2), (3, .ref p3), (4, .ref p4)], []) h (zf_oAx r) h' := by
  unfold f_ColumnVaultLaw_test at hf
  refine zv_p (k := 3) (f' := (4, [(0, .ref p0), (1, .ref p1), (2, .int p2), (3, .ref p3), (4, .ref p4)], [.int (0 : Int32), .ref p4, .int (0 : Int32), .ref p4])) zq_262 zo_262 (by with_unfolding_all rfl) ?_
  replace hf := zf_be hf
  obtain ⟨v1, hv, hf⟩ := hf
  refine zv_ldI zq_262 zo_262 rfl hv ?_
  refine zv_p (k := 2) (f' := (7, [(0, .ref p0), (1, .ref p1), (2, .int p2), (3, .ref p3), (4, .ref p4)], [.int (v1 + (1 : Int32)), .int (0 : Int32), .ref p4])) zq_262 zo_262 (by with_unfolding_all rfl) ?_
  replace hf := zf_be hf
  obtain ⟨h2, hv, hf⟩ := hf
  refine zv_stI zq_262 zo_262 rfl hv ?_
  refine zv_p (k := 4) (f' := (12, [(0, .ref p0), (1, .ref p1), (2, .int p2), (3, .ref p3), (4, .ref p4)], [.int (1 : Int32), .int p2, .ref p1, .ref p0])) zq_262 zo_262 (by with_unfolding_all rfl) ?_
  replace hf := zf_be hf
  obtain ⟨_, ho, hf⟩ := hf
  replace hf := zf_b3e hf
  obtain ⟨v3, h4, hv, hf⟩ | ⟨E5, h4, hv, hf⟩ := hf
  rotate_left
  · cases hf; exact zv_cx zq_262 zo_262 rfl rfl rfl rfl rfl (zv_cv rfl rfl rfl (zf_ise ho) rfl) (t_f_ColumnVault_size _ _ _ _ _ _ hv) rfl
  refine zv_c zq_262 zo_262 rfl rfl rfl rfl rfl (zv_cv rfl rfl rfl (zf_ise ho) rfl) (t_f_ColumnVault_size _ _ _ _ _ _ hv) ?_
  replace hf := zf_b2e hf
  obtain ⟨v6, h7, hv, hf⟩ := hf
  refine zv_c zq_262 zo_262 rfl rfl rfl rfl rfl rfl (t_f_ColumnVaultLaw_draw _ _ _ _ _ hv) ?_
  refine zv_p (k := 4) (f' := (24, [(5, .int v6), (0, .ref p0), (1, .ref p1), (2, .int p2), (3, .ref p3), (4, .ref p4)], [.int v6, .int p2, .ref p1])) zq_262 zo_262 (by with_unfolding_all rfl) ?_
  replace hf := zf_be hf
  obtain ⟨_, ho, hf⟩ := hf
  replace hf := zf_b3e hf
  obtain ⟨v8, h9, hv, hf⟩ | ⟨E10, h9, hv, hf⟩ := hf
  rotate_left
  · cases hf; exact zv_cx zq_262 zo_262 rfl rfl rfl rfl rfl (zv_cv rfl rfl rfl (zf_ise ho) rfl) (t_f_ColumnVault_kind _ _ _ _ _ _ hv) rfl
  refine zv_c zq_262 zo_262 rfl rfl rfl rfl rfl (zv_cv rfl rfl rfl (zf_ise ho) rfl) (t_f_ColumnVault_kind _ _ _ _ _ _ hv) ?_
  refine zv_p (k := 3) (f' := (32, [(6, .int v8), (5, .int v6), (0, .ref p0), (1, .ref p1), (2, .int p2), (3, .ref p3), (4, .ref p4)], [.int (6 : Int32), .ref p0])) zq_262 zo_262 (by with_unfolding_all rfl) ?_
  replace hf := zf_b2e hf
  obtain ⟨v11, h12, hv, hf⟩ := hf
  refine zv_c zq_262 zo_262 rfl rfl rfl rfl rfl rfl (t_f_ColumnVaultLaw_draw _ _ _ _ _ hv) ?_
  refine zv_p (k := 3) (f' := (40, [(7, .int v11), (6, .int v8), (5, .int v6), (0, .ref p0), (1, .ref p1), (2, .int p2), (3, .ref p3), (4, .ref p4)], [.int (3 : Int32), .int v11])) zq_262 zo_262 (by with_unfolding_all rfl) ?_
  replace hf := zf_ite hf
  obtain ⟨hc, hf⟩ | ⟨hc, hf⟩ := hf
  · refine zv_brT (off := 7) (tt := 47) (r := []) zq_262 zo_262 hc rfl rfl rfl ?_
    refine zv_p (k := 2) (f' := (50, [(7, .int v11), (6, .int v8), (5, .int v6), (0, .ref p0), (1, .ref p1), (2, .int p2), (3, .ref p3), (4, .ref p4)], [.int (3 : Int32), .int v11])) zq_262 zo_262 (by with_unfolding_all rfl) ?_
    replace hf := zf_ite hf
    obtain ⟨hc, hf⟩ | ⟨hc, hf⟩ := hf
    · refine zv_brT (off := 7) (tt := 57) (r := []) zq_262 zo_262 hc rfl rfl rfl ?_
      refine zv_p (k := 2) (f' := (60, [(7, .int v11), (6, .int v8), (5, .int v6), (0, .ref p0), (1, .ref p1), (2, .int p2), (3, .ref p3), (4, .ref p4)], [.int (4 : Int32), .int v11])) zq_262 zo_262 (by with_unfolding_all rfl) ?_
      replace hf := zf_ite hf
      obtain ⟨hc, hf⟩ | ⟨hc, hf⟩ := hf
      · refine zv_brT (off := 14) (tt := 74) (r := []) zq_262 zo_262 hc rfl rfl rfl ?_
        refine zv_p (k := 1) (f' := (75, [(7, .int v11), (6, .int v8), (5, .int v6), (0, .ref p0), (1, .ref p1), (2, .int p2), (3, .ref p3), (4, .ref p4)], [.int (0 : Int32)])) zq_262 zo_262 (by with_unfolding_all rfl) ?_
        refine zv_pick (lv' := [(0, .ref p0), (1, .ref p1), (2, .int p2), (3, .ref p3), (5, .int v6), (6, .int v8), (7, .int v11)]) [0, 1, 2, 3, 5, 6, 7] rfl rfl ?_
        exact t_f_ColumnVaultLaw_test_75 _ _ _ _ _ _ _ _ _ _ _ hf
      · refine zv_brF (off := 14) (tt := 74) (r := []) zq_262 zo_262 hc rfl rfl rfl ?_
        refine zv_p (k := 3) (f' := (67, [(7, .int v11), (6, .int v8), (5, .int v6), (0, .ref p0), (1, .ref p1), (2, .int p2), (3, .ref p3), (4, .ref p4)], [.int (6 : Int32), .ref p0, .int (1 : Int32)])) zq_262 zo_262 (by with_unfolding_all rfl) ?_
        replace hf := zf_b2e hf
        obtain ⟨v13, h14, hv, hf⟩ := hf
        refine zv_c zq_262 zo_262 rfl rfl rfl rfl rfl rfl (t_f_ColumnVaultLaw_draw _ _ _ _ _ hv) ?_
        refine zv_p (k := 2) (f' := (75, [(7, .int v11), (6, .int v8), (5, .int v6), (0, .ref p0), (1, .ref p1), (2, .int p2), (3, .ref p3), (4, .ref p4)], [.int ((1 : Int32) + v13)])) zq_262 zo_262 (by with_unfolding_all rfl) ?_
        refine zv_pick (lv' := [(0, .ref p0), (1, .ref p1), (2, .int p2), (3, .ref p3), (5, .int v6), (6, .int v8), (7, .int v11)]) [0, 1, 2, 3, 5, 6, 7] rfl rfl ?_
        exact t_f_ColumnVaultLaw_test_75 _ _ _ _ _ _ _ _ _ _ _ hf
    · refine zv_brF (off := 7) (tt := 57) (r := []) zq_262 zo_262 hc rfl rfl rfl ?_
      refine zv_p (k := 2) (f' := (75, [(7, .int v11), (6, .int v8), (5, .int v6), (0, .ref p0), (1, .ref p1), (2, .int p2), (3, .ref p3), (4, .ref p4)], [.int (2 : Int32)])) zq_262 zo_262 (by with_unfolding_all rfl) ?_
      refine zv_pick (lv' := [(0, .ref p0), (1, .ref p1), (2, .int p2), (3, .ref p3), (5, .int v6), (6, .int v8), (7, .int v11)]) [0, 1, 2, 3, 5, 6, 7] rfl rfl ?_
      exact t_f_ColumnVaultLaw_test_75 _ _ _ _ _ _ _ _ _ _ _ hf
  · refine zv_brF (off := 7) (tt := 47) (r := []) zq_262 zo_262 hc rfl rfl rfl ?_
    refine zv_p (k := 2) (f' := (75, [(7, .int v11), (6, .int v8), (5, .int v6), (0, .ref p0), (1, .ref p1), (2, .int p2), (3, .ref p3), (4, .ref p4)], [.int (1 : Int32)])) zq_262 zo_262 (by with_unfolding_all rfl) ?_
    refine zv_pick (lv' := [(0, .ref p0), (1, .ref p1), (2, .int p2), (3, .ref p3), (5, .int v6), (6, .int v8), (7, .int v11)]) [0, 1, 2, 3, 5, 6, 7] rfl rfl ?_
    exact t_f_ColumnVaultLaw_test_75 _ _ _ _ _ _ _ _ _ _ _ hf
/-! ColumnVaultLaw.filter (arr ILColumnVault;ILjava/lang/StringBuilder;Iarr I)arr Z -/
noncomputable def zI_260 : zd_T := [[(0, .aload_n 1, 1), (1, .iload_n 2, 1), (2, .iconst 0, 1), (3, .invokevirtual 147, 3), (6, .newarray .boolean, 2), (8, .astore 6, 2), (10, .iconst 1, 1), (11, .aload_n 0, 1), (12, .iconst 5, 1), (13, .invokestatic 16, 3), (16, .iconst 3, 1), (17, .idiv, 1), (18, .iadd, 1), (19, .istore 7, 2), (21, .iconst 0, 1), (22, .istore 8, 2), (24, .iload 8, 2), (26, .iload 7, 2), (28, .if_icmp .ge 176, 3), (31, .iload 8, 2)], [(33, .ifCond .le 25, 3), (36, .aload_n 3, 1), (37, .aload_n 0, 1), (38, .iconst 2, 1), (39, .invokestatic 16, 3), (42, .ifCond .ne 9, 3), (45, .ldc_w 263, 3), (48, .goto 6, 3), (51, .ldc_w 265, 3), (54, .invokevirtual 219, 3), (57, .pop, 1), (58, .aload_n 0, 1), (59, .aload_n 1, 1), (60, .iload_n 2, 1), (61, .aload_n 3, 1), (62, .iload 4, 2)], [(64, .aload 5, 2), (66, .invokestatic 248, 3), (69, .astore 9, 2), (71, .aload_n 0, 1), (72, .iconst 3, 1), (73, .invokestatic 16, 3), (76, .ifCond .ne 92, 3), (79, .aload_n 3, 1), (80, .aload_n 0, 1), (81, .iconst 2, 1), (82, .invokestatic 16, 3), (85, .ifCond .ne 9, 3), (88, .ldc_w 267, 3), (91, .goto 6, 3), (94, .ldc_w 269, 3)], [(97, .invokevirtual 219, 3), (100, .pop, 1), (101, .aload_n 0, 1), (102, .aload_n 1, 1), (103, .iload_n 2, 1), (104, .aload_n 3, 1), (105, .iload 4, 2), (107, .aload 5, 2), (109, .invokestatic 248, 3), (112, .astore 10, 2), (114, .aload 6, 2), (116, .arraylength, 1), (117, .newarray .boolean, 2), (119, .astore 11, 2), (121, .iconst 0, 1), (122, .istore 12, 2), (124, .iload 12, 2), (126, .aload 6, 2)], [(128, .arraylength, 1), (129, .if_icmp .ge 35, 3), (132, .aload 11, 2), (134, .iload 12, 2), (136, .aload 9, 2), (138, .iload 12, 2), (140, .baload, 1), (141, .ifCond .eq 15, 3), (144, .aload 10, 2), (146, .iload 12, 2), (148, .baload, 1), (149, .ifCond .eq 7, 3), (152, .iconst 1, 1), (153, .goto 4, 3), (156, .iconst 0, 1), (157, .bastore, 1), (158, .iinc 12 1, 3)], [(161, .goto (-37), 3), (164, .aload 11, 2), (166, .astore 9, 2), (168, .iconst 0, 1), (169, .istore 10, 2), (171, .iload 10, 2), (173, .aload 6, 2), (175, .arraylength, 1), (176, .if_icmp .ge 22, 3), (179, .aload 6, 2), (181, .iload 10, 2), (183, .dup2, 1), (184, .baload, 1), (185, .aload 9, 2), (187, .iload 10, 2), (189, .baload, 1), (190, .ior, 1), (191, .bastore, 1)], [(192, .iinc 10 1, 3), (195, .goto (-24), 3), (198, .iinc 8 1, 3), (201, .goto (-177), 3), (204, .aload 6, 2), (206, .areturn, 1)]]
theorem zo_260 : zd_of 260 = some zI_260 := rfl
set_option maxRecDepth 100000 in
theorem zq_260 : zt_m[260]? = some (⟨"ColumnVaultLaw", "filter", "([ILColumnVault;ILjava/lang/StringBuilder;I[I)[Z"⟩, method_20_code, 13, some (.array (.boolean)), [], 17, 6, 0, 1, 99999, 0) := rfl
set_option maxHeartbeats 1000000 in
def f_ColumnVaultLaw_filter_171 (r_261 : Nat → Nat → Int32 → Nat → Int32 → Nat → zx_H → Option ((Nat ⊕ Nat) × zx_H)) (k24 : Nat → Nat → Int32 → Nat → Int32 → Nat → Nat → Int32 → Int32 → zx_H → Option ((Nat ⊕ Nat) × zx_H)) : Nat → Nat → Nat → Int32 → Nat → Int32 → Nat → Nat → Int32 → Int32 → Nat → Int32 → zx_H → Option ((Nat ⊕ Nat) × zx_H)
  | 0, _, _, _, _, _, _, _, _, _, _, _, _ => none
  | n + 1, p0, p1, p2, p3, p4, p5, p6, p7, p8, p9, p10, h =>
    zf_b (zf_len p6 h) fun v1 =>
    if v1 ≤ p10 then
      k24 p0 p1 p2 p3 p4 p5 p6 p7 (p8 + (1 : Int32)) h
    else
      zf_b (zf_ldB p6 p10 h) fun v2 =>
      zf_b (zf_ldB p9 p10 h) fun v3 =>
      zf_b (zf_stB p6 p10 (v2 ||| v3) h) fun h4 =>
      (f_ColumnVaultLaw_filter_171 r_261 k24 n) p0 p1 p2 p3 p4 p5 p6 p7 p8 p9 (p10 + (1 : Int32)) h4
set_option maxHeartbeats 4000000 in
set_option maxRecDepth 400000 in
theorem t_f_ColumnVaultLaw_filter_171 {sc : (Nat × (Nat → Int32)) × Bool} {d : Nat} {r_261 : Nat → Nat → Int32 → Nat → Int32 → Nat → zx_H → Option ((Nat ⊕ Nat) × zx_H)} (hr : ∀ (a0 : Nat) (a1 : Nat) (a2 : Int32) (a3 : Nat) (a4 : Int32) (a5 : Nat) (h : zx_H) (r : (Nat ⊕ Nat)) (h' : zx_H), r_261 a0 a1 a2 a3 a4 a5 h = some (r, h') → zx_T sc d 261 (0, [(0, .ref a0), (1, .ref a1), (2, .int a2), (3, .ref a3), (4, .int a4), (5, .ref a5)], []) h (zf_oAx r) h') {k24 : Nat → Nat → Int32 → Nat → Int32 → Nat → Nat → Int32 → Int32 → zx_H → Option ((Nat ⊕ Nat) × zx_H)} (hk24 : ∀ (a0 : Nat) (a1 : Nat) (a2 : Int32) (a3 : Nat) (a4 : Int32) (a5 : Nat) (a6 : Nat) (a7 : Int32) (a8 : Int32) (h : zx_H) (r : (Nat ⊕ Nat)) (h' : zx_H), k24 a0 a1 a2 a3 a4 a5 a6 a7 a8 h = some (r, h') → zx_T sc (d + 6) 260 (24, [(0, .ref a0), (1, .ref a1), (2, .int a2), (3, .ref a3), (4, .int a4), (5, .ref a5), (6, .ref a6), (7, .int a7), (8, .int a8)], []) h (zf_oAx r) h') : ∀ (n : Nat) (p0 : Nat) (p1 : Nat) (p2 : Int32) (p3 : Nat) (p4 : Int32) (p5 : Nat) (p6 : Nat) (p7 : Int32) (p8 : Int32) (p9 : Nat) (p10 : Int32) (h : zx_H) (r : (Nat ⊕ Nat)) (h' : zx_H), f_ColumnVaultLaw_filter_171 r_261 k24 n p0 p1 p2 p3 p4 p5 p6 p7 p8 p9 p10 h = some (r, h') → zx_T sc (d + 6) 260 (171, [(0, .ref p0), (1, .ref p1), (2, .int p2), (3, .ref p3), (4, .int p4), (5, .ref p5), (6, .ref p6), (7, .int p7), (8, .int p8), (9, .ref p9), (10, .int p10)], []) h (zf_oAx r) h' := by
  intro n
  induction n with
  | zero => intro p0 p1 p2 p3 p4 p5 p6 p7 p8 p9 p10 h r h' hf; cases hf
  | succ n ih =>
    intro p0 p1 p2 p3 p4 p5 p6 p7 p8 p9 p10 h r h' hf
    unfold f_ColumnVaultLaw_filter_171 at hf
    refine zv_p (k := 2) (f' := (175, [(0, .ref p0), (1, .ref p1), (2, .int p2), (3, .ref p3), (4, .int p4), (5, .ref p5), (6, .ref p6), (7, .int p7), (8, .int p8), (9, .ref p9), (10, .int p10)], [.ref p6, .int p10])) zq_260 zo_260 (by with_unfolding_all rfl) ?_
    replace hf := zf_be hf
    obtain ⟨v1, hv, hf⟩ := hf
    refine zv_len zq_260 zo_260 rfl hv ?_
    replace hf := zf_ite hf
    obtain ⟨hc, hf⟩ | ⟨hc, hf⟩ := hf
    · refine zv_brT (off := 22) (tt := 198) (r := []) zq_260 zo_260 hc rfl rfl rfl ?_
      refine zv_p (k := 2) (f' := (24, [(8, .int (p8 + (1 : Int32))), (0, .ref p0), (1, .ref p1), (2, .int p2), (3, .ref p3), (4, .int p4), (5, .ref p5), (6, .ref p6), (7, .int p7), (9, .ref p9), (10, .int p10)], [])) zq_260 zo_260 (by with_unfolding_all rfl) ?_
      refine zv_pick (lv' := [(0, .ref p0), (1, .ref p1), (2, .int p2), (3, .ref p3), (4, .int p4), (5, .ref p5), (6, .ref p6), (7, .int p7), (8, .int (p8 + (1 : Int32)))]) [0, 1, 2, 3, 4, 5, 6, 7, 8] rfl rfl ?_
      exact hk24 _ _ _ _ _ _ _ _ _ _ _ _ hf
    · refine zv_brF (off := 22) (tt := 198) (r := []) zq_260 zo_260 hc rfl rfl rfl ?_
      refine zv_p (k := 3) (f' := (184, [(0, .ref p0), (1, .ref p1), (2, .int p2), (3, .ref p3), (4, .int p4), (5, .ref p5), (6, .ref p6), (7, .int p7), (8, .int p8), (9, .ref p9), (10, .int p10)], [.int p10, .ref p6, .int p10, .ref p6])) zq_260 zo_260 (by with_unfolding_all rfl) ?_
      replace hf := zf_be hf
      obtain ⟨v2, hv, hf⟩ := hf
      refine zv_ldB zq_260 zo_260 rfl hv ?_
      refine zv_p (k := 2) (f' := (189, [(0, .ref p0), (1, .ref p1), (2, .int p2), (3, .ref p3), (4, .int p4), (5, .ref p5), (6, .ref p6), (7, .int p7), (8, .int p8), (9, .ref p9), (10, .int p10)], [.int p10, .ref p9, .int v2, .int p10, .ref p6])) zq_260 zo_260 (by with_unfolding_all rfl) ?_
      replace hf := zf_be hf
      obtain ⟨v3, hv, hf⟩ := hf
      refine zv_ldB zq_260 zo_260 rfl hv ?_
      refine zv_p (k := 1) (f' := (191, [(0, .ref p0), (1, .ref p1), (2, .int p2), (3, .ref p3), (4, .int p4), (5, .ref p5), (6, .ref p6), (7, .int p7), (8, .int p8), (9, .ref p9), (10, .int p10)], [.int (v2 ||| v3), .int p10, .ref p6])) zq_260 zo_260 (by with_unfolding_all rfl) ?_
      replace hf := zf_be hf
      obtain ⟨h4, hv, hf⟩ := hf
      refine zv_stB zq_260 zo_260 rfl hv ?_
      refine zv_p (k := 2) (f' := (171, [(10, .int (p10 + (1 : Int32))), (0, .ref p0), (1, .ref p1), (2, .int p2), (3, .ref p3), (4, .int p4), (5, .ref p5), (6, .ref p6), (7, .int p7), (8, .int p8), (9, .ref p9)], [])) zq_260 zo_260 (by with_unfolding_all rfl) ?_
      refine zv_pick (lv' := [(0, .ref p0), (1, .ref p1), (2, .int p2), (3, .ref p3), (4, .int p4), (5, .ref p5), (6, .ref p6), (7, .int p7), (8, .int p8), (9, .ref p9), (10, .int (p10 + (1 : Int32)))]) [0, 1, 2, 3, 4, 5, 6, 7, 8, 9, 10] rfl rfl ?_
      exact ih _ _ _ _ _ _ _ _ _ _ _ _ _ _ hf
