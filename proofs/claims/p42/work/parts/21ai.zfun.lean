set_option maxHeartbeats 1000000 in
def f_Tokens_readToken (p0 : Nat) (p1 : Nat) (p2 : Int32) (h : zx_H) : Option (Int32 × zx_H) :=
  zf_b (zf_is 4 p1 h) fun _ =>
  zf_b2 (f_FilterText_byteAt p1 p2 h) fun v1 h2 =>
  zf_b (zf_is 4 p1 h2) fun _ =>
  zf_b2 (f_FilterText_byteAt p1 (p2 + (1 : Int32)) h2) fun v3 h4 =>
  if v1 = (33 : Int32) then
    zf_b (zf_is 11 p0 h4) fun _ =>
    zf_b2 (f_Tokens_put p0 v1 p2 (-1 : Int64) h4) fun _ h6 =>
    some ((1 : Int32), h6)
  else if v1 = (35 : Int32) then
    zf_b2 (f_ColumnVault_isDigit v3 h4) fun v7 h8 =>
    if v7 = 0 then
      zf_b (zf_is 11 p0 h8) fun _ =>
      zf_b2 (f_Tokens_put p0 (35 : Int32) p2 (-1 : Int64) h8) fun _ h10 =>
      zf_b2 (f_ColumnVault_isDigit v3 h10) fun v11 h12 =>
      if v11 = 0 then
        some ((1 : Int32), h12)
      else
        some ((2 : Int32), h12)
    else
      zf_b (zf_is 11 p0 h8) fun _ =>
      zf_b2 (f_Tokens_put p0 (35 : Int32) p2 (((v3 - (48 : Int32))).toInt64) h8) fun _ h14 =>
      zf_b2 (f_ColumnVault_isDigit v3 h14) fun v15 h16 =>
      if v15 = 0 then
        some ((1 : Int32), h16)
      else
        some ((2 : Int32), h16)
  else if v1 = (38 : Int32) then
    zf_b (zf_is 11 p0 h4) fun _ =>
    zf_b2 (f_Tokens_put p0 v1 p2 (-1 : Int64) h4) fun _ h18 =>
    some ((1 : Int32), h18)
  else if v1 = (40 : Int32) then
    zf_b (zf_is 11 p0 h4) fun _ =>
    zf_b2 (f_Tokens_put p0 v1 p2 (-1 : Int64) h4) fun _ h20 =>
    some ((1 : Int32), h20)
  else if v1 = (41 : Int32) then
    zf_b (zf_is 11 p0 h4) fun _ =>
    zf_b2 (f_Tokens_put p0 v1 p2 (-1 : Int64) h4) fun _ h22 =>
    some ((1 : Int32), h22)
  else if v1 = (60 : Int32) then
    zf_b (zf_is 11 p0 h4) fun _ =>
    zf_b2 (f_Tokens_put p0 v1 p2 (-1 : Int64) h4) fun _ h24 =>
    some ((1 : Int32), h24)
  else if v1 = (61 : Int32) then
    zf_b (zf_is 11 p0 h4) fun _ =>
    zf_b2 (f_Tokens_put p0 v1 p2 (-1 : Int64) h4) fun _ h26 =>
    some ((1 : Int32), h26)
  else if v1 = (62 : Int32) then
    zf_b (zf_is 11 p0 h4) fun _ =>
    zf_b2 (f_Tokens_put p0 v1 p2 (-1 : Int64) h4) fun _ h28 =>
    some ((1 : Int32), h28)
  else if v1 = (124 : Int32) then
    zf_b (zf_is 11 p0 h4) fun _ =>
    zf_b2 (f_Tokens_put p0 v1 p2 (-1 : Int64) h4) fun _ h30 =>
    some ((1 : Int32), h30)
  else
    zf_b2 (f_ColumnVault_isLetter v1 h4) fun v31 h32 =>
    if v31 = 0 then
      zf_b2 (f_ColumnVault_isDigit v1 h32) fun v33 h34 =>
      if ¬ v33 = 0 then
        zf_b (zf_is 11 p0 h34) fun _ =>
        zf_b2 (f_Tokens_readNumber p0 p1 p2 h34) fun v35 h36 =>
        some (v35, h36)
      else
        if ¬ v1 = (45 : Int32) then
          zf_b (zf_is 11 p0 h34) fun _ =>
          zf_b2 (f_Tokens_put p0 (1 : Int32) p2 (-1 : Int64) h34) fun _ h38 =>
          some ((1 : Int32), h38)
        else
          zf_b2 (f_ColumnVault_isDigit v3 h34) fun v39 h40 =>
          if v39 = 0 then
            zf_b (zf_is 11 p0 h40) fun _ =>
            zf_b2 (f_Tokens_put p0 (1 : Int32) p2 (-1 : Int64) h40) fun _ h42 =>
            some ((1 : Int32), h42)
          else
            zf_b (zf_is 11 p0 h40) fun _ =>
            zf_b2 (f_Tokens_readNumber p0 p1 p2 h40) fun v43 h44 =>
            some (v43, h44)
    else
      zf_b (zf_is 11 p0 h32) fun _ =>
      zf_b2 (f_Tokens_readWord p0 p1 p2 h32) fun v45 h46 =>
      some (v45, h46)
set_option maxHeartbeats 4000000 in
set_option maxRecDepth 400000 in
theorem t_f_Tokens_readToken {sc : (Nat × (Nat → Int32)) × Bool} {d : Nat} (p0 : Nat) (p1 : Nat) (p2 : Int32) (h : zx_H) (r : Int32) (h' : zx_H) (hf : f_Tokens_readToken p0 p1 p2 h = some (r, h')) : zx_T sc (d + 2) 58 (0, [(0, .ref p0), (1, .ref p1), (2, .int p2)], []) h (zf_oI r) h' := by
  unfold f_Tokens_readToken at hf
  refine zv_p (k := 2) (f' := (2, [(0, .ref p0), (1, .ref p1), (2, .int p2)], [.int p2, .ref p1])) zq_58 zo_58 (by with_unfolding_all rfl) ?_
  replace hf := zf_be hf
  obtain ⟨_, ho, hf⟩ := hf
  replace hf := zf_b2e hf
  obtain ⟨v1, h2, hv, hf⟩ := hf
  refine zv_c zq_58 zo_58 rfl rfl rfl rfl rfl (zv_cv rfl rfl rfl (zf_ise ho) rfl) (t_f_FilterText_byteAt _ _ _ _ _ hv) ?_
  refine zv_p (k := 5) (f' := (10, [(3, .int v1), (0, .ref p0), (1, .ref p1), (2, .int p2)], [.int (p2 + (1 : Int32)), .ref p1])) zq_58 zo_58 (by with_unfolding_all rfl) ?_
  replace hf := zf_be hf
  obtain ⟨_, ho, hf⟩ := hf
  replace hf := zf_b2e hf
  obtain ⟨v3, h4, hv, hf⟩ := hf
  refine zv_c zq_58 zo_58 rfl rfl rfl rfl rfl (zv_cv rfl rfl rfl (zf_ise ho) rfl) (t_f_FilterText_byteAt _ _ _ _ _ hv) ?_
  refine zv_p (k := 2) (f' := (16, [(4, .int v3), (3, .int v1), (0, .ref p0), (1, .ref p1), (2, .int p2)], [.int v1])) zq_58 zo_58 (by with_unfolding_all rfl) ?_
  replace hf := zf_ite hf
  obtain ⟨hc, hf⟩ | ⟨hs0, hf⟩ := hf
  · refine zv_sw (f' := (100, [(4, .int v3), (3, .int v1), (0, .ref p0), (1, .ref p1), (2, .int p2)], [])) zq_58 zo_58 rfl hc rfl ?_
    refine zv_p (k := 3) (f' := (103, [(4, .int v3), (3, .int v1), (0, .ref p0), (1, .ref p1), (2, .int p2)], [.int p2, .int v1, .ref p0])) zq_58 zo_58 (by with_unfolding_all rfl) ?_
    refine zv_lng zq_58 zo_58 rfl rfl ?_
    replace hf := zf_be hf
    obtain ⟨_, ho, hf⟩ := hf
    replace hf := zf_b2e hf
    obtain ⟨v5, h6, hv, hf⟩ := hf
    refine zv_c zq_58 zo_58 rfl rfl rfl rfl rfl (zv_cv rfl rfl rfl (zf_ise ho) rfl) (t_f_Tokens_put _ _ _ _ _ _ _ hv) ?_
    refine zv_p (k := 1) (f' := (110, [(4, .int v3), (3, .int v1), (0, .ref p0), (1, .ref p1), (2, .int p2)], [.int (1 : Int32)])) zq_58 zo_58 (by with_unfolding_all rfl) ?_
    cases hf
    exact zv_rn zq_58 zo_58 rfl rfl
  replace hf := zf_ite hf
  obtain ⟨hc, hf⟩ | ⟨hs1, hf⟩ := hf
  · refine zv_sw (f' := (111, [(4, .int v3), (3, .int v1), (0, .ref p0), (1, .ref p1), (2, .int p2)], [])) zq_58 zo_58 rfl hc rfl ?_
    refine zv_p (k := 4) (f' := (117, [(4, .int v3), (3, .int v1), (0, .ref p0), (1, .ref p1), (2, .int p2)], [.int v3, .int p2, .int (35 : Int32), .ref p0])) zq_58 zo_58 (by with_unfolding_all rfl) ?_
    replace hf := zf_b2e hf
    obtain ⟨v7, h8, hv, hf⟩ := hf
    refine zv_c zq_58 zo_58 rfl rfl rfl rfl rfl rfl (t_f_ColumnVault_isDigit _ _ _ _ hv) ?_
    replace hf := zf_ite hf
    obtain ⟨hc, hf⟩ | ⟨hc, hf⟩ := hf
    · refine zv_brT (off := 12) (tt := 132) (r := [.int p2, .int (35 : Int32), .ref p0]) zq_58 zo_58 hc rfl rfl rfl ?_
      refine zv_lng zq_58 zo_58 rfl rfl ?_
      replace hf := zf_be hf
      obtain ⟨_, ho, hf⟩ := hf
      replace hf := zf_b2e hf
      obtain ⟨v9, h10, hv, hf⟩ := hf
      refine zv_c zq_58 zo_58 rfl rfl rfl rfl rfl (zv_cv rfl rfl rfl (zf_ise ho) rfl) (t_f_Tokens_put _ _ _ _ _ _ _ hv) ?_
      refine zv_p (k := 1) (f' := (140, [(4, .int v3), (3, .int v1), (0, .ref p0), (1, .ref p1), (2, .int p2)], [.int v3])) zq_58 zo_58 (by with_unfolding_all rfl) ?_
      replace hf := zf_b2e hf
      obtain ⟨v11, h12, hv, hf⟩ := hf
      refine zv_c zq_58 zo_58 rfl rfl rfl rfl rfl rfl (t_f_ColumnVault_isDigit _ _ _ _ hv) ?_
      replace hf := zf_ite hf
      obtain ⟨hc, hf⟩ | ⟨hc, hf⟩ := hf
      · refine zv_brT (off := 7) (tt := 150) (r := []) zq_58 zo_58 hc rfl rfl rfl ?_
        refine zv_p (k := 1) (f' := (151, [(4, .int v3), (3, .int v1), (0, .ref p0), (1, .ref p1), (2, .int p2)], [.int (1 : Int32)])) zq_58 zo_58 (by with_unfolding_all rfl) ?_
        cases hf
        exact zv_rn zq_58 zo_58 rfl rfl
      · refine zv_brF (off := 7) (tt := 150) (r := []) zq_58 zo_58 hc rfl rfl rfl ?_
        refine zv_p (k := 2) (f' := (151, [(4, .int v3), (3, .int v1), (0, .ref p0), (1, .ref p1), (2, .int p2)], [.int (2 : Int32)])) zq_58 zo_58 (by with_unfolding_all rfl) ?_
        cases hf
        exact zv_rn zq_58 zo_58 rfl rfl
    · refine zv_brF (off := 12) (tt := 132) (r := [.int p2, .int (35 : Int32), .ref p0]) zq_58 zo_58 hc rfl rfl rfl ?_
      refine zv_p (k := 5) (f' := (135, [(4, .int v3), (3, .int v1), (0, .ref p0), (1, .ref p1), (2, .int p2)], [.long ((v3 - (48 : Int32))).toInt64, .int p2, .int (35 : Int32), .ref p0])) zq_58 zo_58 (by with_unfolding_all rfl) ?_
      replace hf := zf_be hf
      obtain ⟨_, ho, hf⟩ := hf
      replace hf := zf_b2e hf
      obtain ⟨v13, h14, hv, hf⟩ := hf
      refine zv_c zq_58 zo_58 rfl rfl rfl rfl rfl (zv_cv rfl rfl rfl (zf_ise ho) rfl) (t_f_Tokens_put _ _ _ _ _ _ _ hv) ?_
      refine zv_p (k := 1) (f' := (140, [(4, .int v3), (3, .int v1), (0, .ref p0), (1, .ref p1), (2, .int p2)], [.int v3])) zq_58 zo_58 (by with_unfolding_all rfl) ?_
      replace hf := zf_b2e hf
      obtain ⟨v15, h16, hv, hf⟩ := hf
      refine zv_c zq_58 zo_58 rfl rfl rfl rfl rfl rfl (t_f_ColumnVault_isDigit _ _ _ _ hv) ?_
      replace hf := zf_ite hf
      obtain ⟨hc, hf⟩ | ⟨hc, hf⟩ := hf
      · refine zv_brT (off := 7) (tt := 150) (r := []) zq_58 zo_58 hc rfl rfl rfl ?_
        refine zv_p (k := 1) (f' := (151, [(4, .int v3), (3, .int v1), (0, .ref p0), (1, .ref p1), (2, .int p2)], [.int (1 : Int32)])) zq_58 zo_58 (by with_unfolding_all rfl) ?_
        cases hf
        exact zv_rn zq_58 zo_58 rfl rfl
      · refine zv_brF (off := 7) (tt := 150) (r := []) zq_58 zo_58 hc rfl rfl rfl ?_
        refine zv_p (k := 2) (f' := (151, [(4, .int v3), (3, .int v1), (0, .ref p0), (1, .ref p1), (2, .int p2)], [.int (2 : Int32)])) zq_58 zo_58 (by with_unfolding_all rfl) ?_
        cases hf
        exact zv_rn zq_58 zo_58 rfl rfl
  replace hf := zf_ite hf
  obtain ⟨hc, hf⟩ | ⟨hs2, hf⟩ := hf
  · refine zv_sw (f' := (100, [(4, .int v3), (3, .int v1), (0, .ref p0), (1, .ref p1), (2, .int p2)], [])) zq_58 zo_58 rfl hc rfl ?_
    refine zv_p (k := 3) (f' := (103, [(4, .int v3), (3, .int v1), (0, .ref p0), (1, .ref p1), (2, .int p2)], [.int p2, .int v1, .ref p0])) zq_58 zo_58 (by with_unfolding_all rfl) ?_
    refine zv_lng zq_58 zo_58 rfl rfl ?_
    replace hf := zf_be hf
    obtain ⟨_, ho, hf⟩ := hf
    replace hf := zf_b2e hf
    obtain ⟨v17, h18, hv, hf⟩ := hf
    refine zv_c zq_58 zo_58 rfl rfl rfl rfl rfl (zv_cv rfl rfl rfl (zf_ise ho) rfl) (t_f_Tokens_put _ _ _ _ _ _ _ hv) ?_
    refine zv_p (k := 1) (f' := (110, [(4, .int v3), (3, .int v1), (0, .ref p0), (1, .ref p1), (2, .int p2)], [.int (1 : Int32)])) zq_58 zo_58 (by with_unfolding_all rfl) ?_
    cases hf
    exact zv_rn zq_58 zo_58 rfl rfl
  replace hf := zf_ite hf
  obtain ⟨hc, hf⟩ | ⟨hs3, hf⟩ := hf
  · refine zv_sw (f' := (100, [(4, .int v3), (3, .int v1), (0, .ref p0), (1, .ref p1), (2, .int p2)], [])) zq_58 zo_58 rfl hc rfl ?_
    refine zv_p (k := 3) (f' := (103, [(4, .int v3), (3, .int v1), (0, .ref p0), (1, .ref p1), (2, .int p2)], [.int p2, .int v1, .ref p0])) zq_58 zo_58 (by with_unfolding_all rfl) ?_
    refine zv_lng zq_58 zo_58 rfl rfl ?_
    replace hf := zf_be hf
    obtain ⟨_, ho, hf⟩ := hf
    replace hf := zf_b2e hf
    obtain ⟨v19, h20, hv, hf⟩ := hf
    refine zv_c zq_58 zo_58 rfl rfl rfl rfl rfl (zv_cv rfl rfl rfl (zf_ise ho) rfl) (t_f_Tokens_put _ _ _ _ _ _ _ hv) ?_
    refine zv_p (k := 1) (f' := (110, [(4, .int v3), (3, .int v1), (0, .ref p0), (1, .ref p1), (2, .int p2)], [.int (1 : Int32)])) zq_58 zo_58 (by with_unfolding_all rfl) ?_
    cases hf
    exact zv_rn zq_58 zo_58 rfl rfl
  replace hf := zf_ite hf
  obtain ⟨hc, hf⟩ | ⟨hs4, hf⟩ := hf
  · refine zv_sw (f' := (100, [(4, .int v3), (3, .int v1), (0, .ref p0), (1, .ref p1), (2, .int p2)], [])) zq_58 zo_58 rfl hc rfl ?_
    refine zv_p (k := 3) (f' := (103, [(4, .int v3), (3, .int v1), (0, .ref p0), (1, .ref p1), (2, .int p2)], [.int p2, .int v1, .ref p0])) zq_58 zo_58 (by with_unfolding_all rfl) ?_
    refine zv_lng zq_58 zo_58 rfl rfl ?_
    replace hf := zf_be hf
    obtain ⟨_, ho, hf⟩ := hf
    replace hf := zf_b2e hf
    obtain ⟨v21, h22, hv, hf⟩ := hf
    refine zv_c zq_58 zo_58 rfl rfl rfl rfl rfl (zv_cv rfl rfl rfl (zf_ise ho) rfl) (t_f_Tokens_put _ _ _ _ _ _ _ hv) ?_
    refine zv_p (k := 1) (f' := (110, [(4, .int v3), (3, .int v1), (0, .ref p0), (1, .ref p1), (2, .int p2)], [.int (1 : Int32)])) zq_58 zo_58 (by with_unfolding_all rfl) ?_
    cases hf
    exact zv_rn zq_58 zo_58 rfl rfl
  replace hf := zf_ite hf
  obtain ⟨hc, hf⟩ | ⟨hs5, hf⟩ := hf
  · refine zv_sw (f' := (100, [(4, .int v3), (3, .int v1), (0, .ref p0), (1, .ref p1), (2, .int p2)], [])) zq_58 zo_58 rfl hc rfl ?_
    refine zv_p (k := 3) (f' := (103, [(4, .int v3), (3, .int v1), (0, .ref p0), (1, .ref p1), (2, .int p2)], [.int p2, .int v1, .ref p0])) zq_58 zo_58 (by with_unfolding_all rfl) ?_
    refine zv_lng zq_58 zo_58 rfl rfl ?_
    replace hf := zf_be hf
    obtain ⟨_, ho, hf⟩ := hf
    replace hf := zf_b2e hf
    obtain ⟨v23, h24, hv, hf⟩ := hf
    refine zv_c zq_58 zo_58 rfl rfl rfl rfl rfl (zv_cv rfl rfl rfl (zf_ise ho) rfl) (t_f_Tokens_put _ _ _ _ _ _ _ hv) ?_
    refine zv_p (k := 1) (f' := (110, [(4, .int v3), (3, .int v1), (0, .ref p0), (1, .ref p1), (2, .int p2)], [.int (1 : Int32)])) zq_58 zo_58 (by with_unfolding_all rfl) ?_
    cases hf
    exact zv_rn zq_58 zo_58 rfl rfl
  replace hf := zf_ite hf
  obtain ⟨hc, hf⟩ | ⟨hs6, hf⟩ := hf
  · refine zv_sw (f' := (100, [(4, .int v3), (3, .int v1), (0, .ref p0), (1, .ref p1), (2, .int p2)], [])) zq_58 zo_58 rfl hc rfl ?_
    refine zv_p (k := 3) (f' := (103, [(4, .int v3), (3, .int v1), (0, .ref p0), (1, .ref p1), (2, .int p2)], [.int p2, .int v1, .ref p0])) zq_58 zo_58 (by with_unfolding_all rfl) ?_
    refine zv_lng zq_58 zo_58 rfl rfl ?_
    replace hf := zf_be hf
    obtain ⟨_, ho, hf⟩ := hf
    replace hf := zf_b2e hf
    obtain ⟨v25, h26, hv, hf⟩ := hf
    refine zv_c zq_58 zo_58 rfl rfl rfl rfl rfl (zv_cv rfl rfl rfl (zf_ise ho) rfl) (t_f_Tokens_put _ _ _ _ _ _ _ hv) ?_
    refine zv_p (k := 1) (f' := (110, [(4, .int v3), (3, .int v1), (0, .ref p0), (1, .ref p1), (2, .int p2)], [.int (1 : Int32)])) zq_58 zo_58 (by with_unfolding_all rfl) ?_
    cases hf
    exact zv_rn zq_58 zo_58 rfl rfl
  replace hf := zf_ite hf
  obtain ⟨hc, hf⟩ | ⟨hs7, hf⟩ := hf
  · refine zv_sw (f' := (100, [(4, .int v3), (3, .int v1), (0, .ref p0), (1, .ref p1), (2, .int p2)], [])) zq_58 zo_58 rfl hc rfl ?_
    refine zv_p (k := 3) (f' := (103, [(4, .int v3), (3, .int v1), (0, .ref p0), (1, .ref p1), (2, .int p2)], [.int p2, .int v1, .ref p0])) zq_58 zo_58 (by with_unfolding_all rfl) ?_
    refine zv_lng zq_58 zo_58 rfl rfl ?_
    replace hf := zf_be hf
    obtain ⟨_, ho, hf⟩ := hf
    replace hf := zf_b2e hf
    obtain ⟨v27, h28, hv, hf⟩ := hf
    refine zv_c zq_58 zo_58 rfl rfl rfl rfl rfl (zv_cv rfl rfl rfl (zf_ise ho) rfl) (t_f_Tokens_put _ _ _ _ _ _ _ hv) ?_
    refine zv_p (k := 1) (f' := (110, [(4, .int v3), (3, .int v1), (0, .ref p0), (1, .ref p1), (2, .int p2)], [.int (1 : Int32)])) zq_58 zo_58 (by with_unfolding_all rfl) ?_
    cases hf
    exact zv_rn zq_58 zo_58 rfl rfl
  replace hf := zf_ite hf
  obtain ⟨hc, hf⟩ | ⟨hs8, hf⟩ := hf
  · refine zv_sw (f' := (100, [(4, .int v3), (3, .int v1), (0, .ref p0), (1, .ref p1), (2, .int p2)], [])) zq_58 zo_58 rfl hc rfl ?_
    refine zv_p (k := 3) (f' := (103, [(4, .int v3), (3, .int v1), (0, .ref p0), (1, .ref p1), (2, .int p2)], [.int p2, .int v1, .ref p0])) zq_58 zo_58 (by with_unfolding_all rfl) ?_
    refine zv_lng zq_58 zo_58 rfl rfl ?_
    replace hf := zf_be hf
    obtain ⟨_, ho, hf⟩ := hf
    replace hf := zf_b2e hf
    obtain ⟨v29, h30, hv, hf⟩ := hf
    refine zv_c zq_58 zo_58 rfl rfl rfl rfl rfl (zv_cv rfl rfl rfl (zf_ise ho) rfl) (t_f_Tokens_put _ _ _ _ _ _ _ hv) ?_
    refine zv_p (k := 1) (f' := (110, [(4, .int v3), (3, .int v1), (0, .ref p0), (1, .ref p1), (2, .int p2)], [.int (1 : Int32)])) zq_58 zo_58 (by with_unfolding_all rfl) ?_
    cases hf
    exact zv_rn zq_58 zo_58 rfl rfl
  refine zv_lsd (tt := 152) zq_58 zo_58 rfl (zi_oc (zi_ne rfl hs0) (zi_oc (zi_ne rfl hs1) (zi_oc (zi_ne rfl hs2) (zi_oc (zi_ne rfl hs3) (zi_oc (zi_ne rfl hs4) (zi_oc (zi_ne rfl hs5) (zi_oc (zi_ne rfl hs6) (zi_oc (zi_ne rfl hs7) (zi_oc (zi_ne rfl hs8) (zi_on _ _)))))))))) rfl rfl ?_
  refine zv_p (k := 1) (f' := (153, [(4, .int v3), (3, .int v1), (0, .ref p0), (1, .ref p1), (2, .int p2)], [.int v1])) zq_58 zo_58 (by with_unfolding_all rfl) ?_
  replace hf := zf_b2e hf
  obtain ⟨v31, h32, hv, hf⟩ := hf
  refine zv_c zq_58 zo_58 rfl rfl rfl rfl rfl rfl (t_f_ColumnVault_isLetter _ _ _ _ hv) ?_
  replace hf := zf_ite hf
  obtain ⟨hc, hf⟩ | ⟨hc, hf⟩ := hf
  · refine zv_brT (off := 10) (tt := 166) (r := []) zq_58 zo_58 hc rfl rfl rfl ?_
    refine zv_p (k := 1) (f' := (167, [(4, .int v3), (3, .int v1), (0, .ref p0), (1, .ref p1), (2, .int p2)], [.int v1])) zq_58 zo_58 (by with_unfolding_all rfl) ?_
    replace hf := zf_b2e hf
    obtain ⟨v33, h34, hv, hf⟩ := hf
    refine zv_c zq_58 zo_58 rfl rfl rfl rfl rfl rfl (t_f_ColumnVault_isDigit _ _ _ _ hv) ?_
    replace hf := zf_ite hf
    obtain ⟨hc, hf⟩ | ⟨hc, hf⟩ := hf
    · refine zv_brT (off := 17) (tt := 187) (r := []) zq_58 zo_58 hc rfl rfl rfl ?_
      refine zv_p (k := 3) (f' := (190, [(4, .int v3), (3, .int v1), (0, .ref p0), (1, .ref p1), (2, .int p2)], [.int p2, .ref p1, .ref p0])) zq_58 zo_58 (by with_unfolding_all rfl) ?_
      replace hf := zf_be hf
      obtain ⟨_, ho, hf⟩ := hf
      replace hf := zf_b2e hf
      obtain ⟨v35, h36, hv, hf⟩ := hf
      refine zv_c zq_58 zo_58 rfl rfl rfl rfl rfl (zv_cv rfl rfl rfl (zf_ise ho) rfl) (t_f_Tokens_readNumber _ _ _ _ _ _ hv) ?_
      cases hf
      exact zv_rn zq_58 zo_58 rfl rfl
    · refine zv_brF (off := 17) (tt := 187) (r := []) zq_58 zo_58 hc rfl rfl rfl ?_
      refine zv_p (k := 2) (f' := (176, [(4, .int v3), (3, .int v1), (0, .ref p0), (1, .ref p1), (2, .int p2)], [.int (45 : Int32), .int v1])) zq_58 zo_58 (by with_unfolding_all rfl) ?_
      replace hf := zf_ite hf
      obtain ⟨hc, hf⟩ | ⟨hc, hf⟩ := hf
      · refine zv_brT (off := 18) (tt := 194) (r := []) zq_58 zo_58 hc rfl rfl rfl ?_
        refine zv_p (k := 3) (f' := (197, [(4, .int v3), (3, .int v1), (0, .ref p0), (1, .ref p1), (2, .int p2)], [.int p2, .int (1 : Int32), .ref p0])) zq_58 zo_58 (by with_unfolding_all rfl) ?_
        refine zv_lng zq_58 zo_58 rfl rfl ?_
        replace hf := zf_be hf
        obtain ⟨_, ho, hf⟩ := hf
        replace hf := zf_b2e hf
        obtain ⟨v37, h38, hv, hf⟩ := hf
        refine zv_c zq_58 zo_58 rfl rfl rfl rfl rfl (zv_cv rfl rfl rfl (zf_ise ho) rfl) (t_f_Tokens_put _ _ _ _ _ _ _ hv) ?_
        refine zv_p (k := 1) (f' := (204, [(4, .int v3), (3, .int v1), (0, .ref p0), (1, .ref p1), (2, .int p2)], [.int (1 : Int32)])) zq_58 zo_58 (by with_unfolding_all rfl) ?_
        cases hf
        exact zv_rn zq_58 zo_58 rfl rfl
      · refine zv_brF (off := 18) (tt := 194) (r := []) zq_58 zo_58 hc rfl rfl rfl ?_
        refine zv_p (k := 1) (f' := (181, [(4, .int v3), (3, .int v1), (0, .ref p0), (1, .ref p1), (2, .int p2)], [.int v3])) zq_58 zo_58 (by with_unfolding_all rfl) ?_
        replace hf := zf_b2e hf
        obtain ⟨v39, h40, hv, hf⟩ := hf
        refine zv_c zq_58 zo_58 rfl rfl rfl rfl rfl rfl (t_f_ColumnVault_isDigit _ _ _ _ hv) ?_
        replace hf := zf_ite hf
        obtain ⟨hc, hf⟩ | ⟨hc, hf⟩ := hf
        · refine zv_brT (off := 10) (tt := 194) (r := []) zq_58 zo_58 hc rfl rfl rfl ?_
          refine zv_p (k := 3) (f' := (197, [(4, .int v3), (3, .int v1), (0, .ref p0), (1, .ref p1), (2, .int p2)], [.int p2, .int (1 : Int32), .ref p0])) zq_58 zo_58 (by with_unfolding_all rfl) ?_
          refine zv_lng zq_58 zo_58 rfl rfl ?_
          replace hf := zf_be hf
          obtain ⟨_, ho, hf⟩ := hf
          replace hf := zf_b2e hf
          obtain ⟨v41, h42, hv, hf⟩ := hf
          refine zv_c zq_58 zo_58 rfl rfl rfl rfl rfl (zv_cv rfl rfl rfl (zf_ise ho) rfl) (t_f_Tokens_put _ _ _ _ _ _ _ hv) ?_
          refine zv_p (k := 1) (f' := (204, [(4, .int v3), (3, .int v1), (0, .ref p0), (1, .ref p1), (2, .int p2)], [.int (1 : Int32)])) zq_58 zo_58 (by with_unfolding_all rfl) ?_
          cases hf
          exact zv_rn zq_58 zo_58 rfl rfl
        · refine zv_brF (off := 10) (tt := 194) (r := []) zq_58 zo_58 hc rfl rfl rfl ?_
          refine zv_p (k := 3) (f' := (190, [(4, .int v3), (3, .int v1), (0, .ref p0), (1, .ref p1), (2, .int p2)], [.int p2, .ref p1, .ref p0])) zq_58 zo_58 (by with_unfolding_all rfl) ?_
          replace hf := zf_be hf
          obtain ⟨_, ho, hf⟩ := hf
          replace hf := zf_b2e hf
          obtain ⟨v43, h44, hv, hf⟩ := hf
          refine zv_c zq_58 zo_58 rfl rfl rfl rfl rfl (zv_cv rfl rfl rfl (zf_ise ho) rfl) (t_f_Tokens_readNumber _ _ _ _ _ _ hv) ?_
          cases hf
          exact zv_rn zq_58 zo_58 rfl rfl
  · refine zv_brF (off := 10) (tt := 166) (r := []) zq_58 zo_58 hc rfl rfl rfl ?_
    refine zv_p (k := 3) (f' := (162, [(4, .int v3), (3, .int v1), (0, .ref p0), (1, .ref p1), (2, .int p2)], [.int p2, .ref p1, .ref p0])) zq_58 zo_58 (by with_unfolding_all rfl) ?_
    replace hf := zf_be hf
    obtain ⟨_, ho, hf⟩ := hf
    replace hf := zf_b2e hf
    obtain ⟨v45, h46, hv, hf⟩ := hf
    refine zv_c zq_58 zo_58 rfl rfl rfl rfl rfl (zv_cv rfl rfl rfl (zf_ise ho) rfl) (t_f_Tokens_readWord _ _ _ _ _ _ hv) ?_
    cases hf
    exact zv_rn zq_58 zo_58 rfl rfl
/-! ColumnVault$Tokens.readFrom (LColumnVault$FilterText;)V -/
noncomputable def zI_56 : zd_T := [[(0, .aload_n 0, 1), (1, .iconst 0, 1), (2, .putfield 22, 3), (5, .iconst 0, 1), (6, .istore_n 2, 1), (7, .iload_n 2, 1), (8, .aload_n 1, 1), (9, .getfield 26, 3), (12, .if_icmp .ge 35, 3), (15, .aload_n 1, 1), (16, .iload_n 2, 1), (17, .invokevirtual 31, 3), (20, .bipush 32, 2), (22, .if_icmp .ne 7, 3), (25, .iconst 1, 1), (26, .goto 9, 3), (29, .aload_n 0, 1), (30, .aload_n 1, 1), (31, .iload_n 2, 1)], [(32, .invokevirtual 35, 3), (35, .istore_n 3, 1), (36, .iload_n 2, 1), (37, .iload_n 3, 1), (38, .iconst 1, 1), (39, .invokestatic 39, 3), (42, .iadd, 1), (43, .istore_n 2, 1), (44, .goto (-37), 3), (47, .aload_n 0, 1), (48, .iconst 0, 1), (49, .aload_n 1, 1), (50, .getfield 26, 3), (53, .ldc2_w 45, 3), (56, .invokevirtual 47, 3), (59, .return_, 1)]]
theorem zo_56 : zd_of 56 = some zI_56 := rfl
set_option maxRecDepth 100000 in
theorem zq_56 : zt_m[56]? = some (⟨"ColumnVault$Tokens", "readFrom", "(LColumnVault$FilterText;)V"⟩, prog_11_method_2_code, 4, none, [], 11, 1, 0, 0, 0, 0) := rfl
set_option maxHeartbeats 1000000 in
def f_Tokens_readFrom_7 : Nat → Nat → Nat → Int32 → zx_H → Option (Unit × zx_H)
  | 0, _, _, _, _ => none
  | n + 1, p0, p1, p2, h =>
    zf_b (zf_I 4 1 p1 h) fun v1 =>
    if v1 ≤ p2 then
      zf_b (zf_I 4 1 p1 h) fun v2 =>
      zf_b (zf_is 11 p0 h) fun _ =>
      zf_b2 (f_Tokens_put p0 (0 : Int32) v2 (-1 : Int64) h) fun _ h4 =>
      some ((), h4)
    else
      zf_b (zf_is 4 p1 h) fun _ =>
      zf_b2 (f_FilterText_byteAt p1 p2 h) fun v5 h6 =>
      if ¬ v5 = (32 : Int32) then
        zf_b (zf_is 11 p0 h6) fun _ =>
        zf_b2 (f_Tokens_readToken p0 p1 p2 h6) fun v7 h8 =>
        (f_Tokens_readFrom_7 n) p0 p1 (p2 + (if v7 < (1 : Int32) then (1 : Int32) else v7)) h8
      else
        (f_Tokens_readFrom_7 n) p0 p1 (p2 + (if (1 : Int32) < (1 : Int32) then (1 : Int32) else (1 : Int32))) h6
set_option maxHeartbeats 4000000 in
set_option maxRecDepth 400000 in
theorem t_f_Tokens_readFrom_7 {sc : (Nat × (Nat → Int32)) × Bool} {d : Nat} : ∀ (n : Nat) (p0 : Nat) (p1 : Nat) (p2 : Int32) (h : zx_H) (r : Unit) (h' : zx_H), f_Tokens_readFrom_7 n p0 p1 p2 h = some (r, h') → zx_T sc (d + 3) 56 (7, [(0, .ref p0), (1, .ref p1), (2, .int p2)], []) h (zf_oV r) h' := by
  intro n
  induction n with
  | zero => intro p0 p1 p2 h r h' hf; cases hf
  | succ n ih =>
    intro p0 p1 p2 h r h' hf
    unfold f_Tokens_readFrom_7 at hf
    refine zv_p (k := 2) (f' := (9, [(0, .ref p0), (1, .ref p1), (2, .int p2)], [.ref p1, .int p2])) zq_56 zo_56 (by with_unfolding_all rfl) ?_
    replace hf := zf_be hf
    obtain ⟨v1, hv, hf⟩ := hf
    refine zv_gf zq_56 zo_56 rfl rfl rfl (zf_Ie hv) ?_
    replace hf := zf_ite hf
    obtain ⟨hc, hf⟩ | ⟨hc, hf⟩ := hf
    · refine zv_brT (off := 35) (tt := 47) (r := []) zq_56 zo_56 hc rfl rfl rfl ?_
      refine zv_p (k := 3) (f' := (50, [(0, .ref p0), (1, .ref p1), (2, .int p2)], [.ref p1, .int (0 : Int32), .ref p0])) zq_56 zo_56 (by with_unfolding_all rfl) ?_
      replace hf := zf_be hf
      obtain ⟨v2, hv, hf⟩ := hf
      refine zv_gf zq_56 zo_56 rfl rfl rfl (zf_Ie hv) ?_
      refine zv_lng zq_56 zo_56 rfl rfl ?_
      replace hf := zf_be hf
      obtain ⟨_, ho, hf⟩ := hf
      replace hf := zf_b2e hf
      obtain ⟨v3, h4, hv, hf⟩ := hf
      refine zv_c zq_56 zo_56 rfl rfl rfl rfl rfl (zv_cv rfl rfl rfl (zf_ise ho) rfl) (t_f_Tokens_put _ _ _ _ _ _ _ hv) ?_
      cases hf
      exact zv_r zq_56 zo_56 rfl rfl rfl rfl rfl
    · refine zv_brF (off := 35) (tt := 47) (r := []) zq_56 zo_56 hc rfl rfl rfl ?_
      refine zv_p (k := 2) (f' := (17, [(0, .ref p0), (1, .ref p1), (2, .int p2)], [.int p2, .ref p1])) zq_56 zo_56 (by with_unfolding_all rfl) ?_
      replace hf := zf_be hf
      obtain ⟨_, ho, hf⟩ := hf
      replace hf := zf_b2e hf
      obtain ⟨v5, h6, hv, hf⟩ := hf
      refine zv_c zq_56 zo_56 rfl rfl rfl rfl rfl (zv_cv rfl rfl rfl (zf_ise ho) rfl) (t_f_FilterText_byteAt _ _ _ _ _ hv) ?_
      refine zv_p (k := 1) (f' := (22, [(0, .ref p0), (1, .ref p1), (2, .int p2)], [.int (32 : Int32), .int v5])) zq_56 zo_56 (by with_unfolding_all rfl) ?_
      replace hf := zf_ite hf
      obtain ⟨hc, hf⟩ | ⟨hc, hf⟩ := hf
      · refine zv_brT (off := 7) (tt := 29) (r := []) zq_56 zo_56 hc rfl rfl rfl ?_
        refine zv_p (k := 3) (f' := (32, [(0, .ref p0), (1, .ref p1), (2, .int p2)], [.int p2, .ref p1, .ref p0])) zq_56 zo_56 (by with_unfolding_all rfl) ?_
        replace hf := zf_be hf
        obtain ⟨_, ho, hf⟩ := hf
        replace hf := zf_b2e hf
        obtain ⟨v7, h8, hv, hf⟩ := hf
        refine zv_c zq_56 zo_56 rfl rfl rfl rfl rfl (zv_cv rfl rfl rfl (zf_ise ho) rfl) (t_f_Tokens_readToken _ _ _ _ _ _ hv) ?_
        refine zv_p (k := 4) (f' := (39, [(3, .int v7), (0, .ref p0), (1, .ref p1), (2, .int p2)], [.int (1 : Int32), .int v7, .int p2])) zq_56 zo_56 (by with_unfolding_all rfl) ?_
        refine zv_mm0 zq_56 zo_56 rfl rfl rfl ?_
        refine zv_p (k := 3) (f' := (7, [(2, .int (p2 + (if v7 < (1 : Int32) then (1 : Int32) else v7))), (3, .int v7), (0, .ref p0), (1, .ref p1)], [])) zq_56 zo_56 (by with_unfolding_all rfl) ?_
        refine zv_pick (lv' := [(0, .ref p0), (1, .ref p1), (2, .int (p2 + (if v7 < (1 : Int32) then (1 : Int32) else v7)))]) [0, 1, 2] rfl rfl ?_
        exact ih _ _ _ _ _ _ hf
      · refine zv_brF (off := 7) (tt := 29) (r := []) zq_56 zo_56 hc rfl rfl rfl ?_
        refine zv_p (k := 6) (f' := (39, [(3, .int (1 : Int32)), (0, .ref p0), (1, .ref p1), (2, .int p2)], [.int (1 : Int32), .int (1 : Int32), .int p2])) zq_56 zo_56 (by with_unfolding_all rfl) ?_
        refine zv_mm0 zq_56 zo_56 rfl rfl rfl ?_
        refine zv_p (k := 3) (f' := (7, [(2, .int (p2 + (if (1 : Int32) < (1 : Int32) then (1 : Int32) else (1 : Int32)))), (3, .int (1 : Int32)), (0, .ref p0), (1, .ref p1)], [])) zq_56 zo_56 (by with_unfolding_all rfl) ?_
        refine zv_pick (lv' := [(0, .ref p0), (1, .ref p1), (2, .int (p2 + (if (1 : Int32) < (1 : Int32) then (1 : Int32) else (1 : Int32))))]) [0, 1, 2] rfl rfl ?_
        exact ih _ _ _ _ _ _ hf
set_option maxHeartbeats 1000000 in
def f_Tokens_readFrom (p0 : Nat) (p1 : Nat) (h : zx_H) : Option (Unit × zx_H) :=
  zf_b (zf_put 11 3 p0 (.int (0 : Int32)) h) fun h1 =>
  f_Tokens_readFrom_7 zF p0 p1 (0 : Int32) h1
set_option maxHeartbeats 4000000 in
set_option maxRecDepth 400000 in
theorem t_f_Tokens_readFrom {sc : (Nat × (Nat → Int32)) × Bool} {d : Nat} (p0 : Nat) (p1 : Nat) (h : zx_H) (r : Unit) (h' : zx_H) (hf : f_Tokens_readFrom p0 p1 h = some (r, h')) : zx_T sc (d + 3) 56 (0, [(0, .ref p0), (1, .ref p1)], []) h (zf_oV r) h' := by
  unfold f_Tokens_readFrom at hf
  refine zv_p (k := 2) (f' := (2, [(0, .ref p0), (1, .ref p1)], [.int (0 : Int32), .ref p0])) zq_56 zo_56 (by with_unfolding_all rfl) ?_
  replace hf := zf_be hf
  obtain ⟨h1, hv, hf⟩ := hf
  refine zv_pf zq_56 zo_56 rfl rfl rfl rfl hv ?_
  refine zv_p (k := 2) (f' := (7, [(2, .int (0 : Int32)), (0, .ref p0), (1, .ref p1)], [])) zq_56 zo_56 (by with_unfolding_all rfl) ?_
  refine zv_pick (lv' := [(0, .ref p0), (1, .ref p1), (2, .int (0 : Int32))]) [0, 1, 2] rfl rfl ?_
  exact t_f_Tokens_readFrom_7 zF _ _ _ _ _ _ hf
/-! ColumnVault$Node.init (IJ)V -/
noncomputable def zI_66 : zd_T := [[(0, .aload_n 0, 1), (1, .invokespecial 3, 3), (4, .aload_n 0, 1), (5, .aconst_null, 1), (6, .putfield 9, 3), (9, .aload_n 0, 1), (10, .aconst_null, 1), (11, .putfield 15, 3), (14, .aload_n 0, 1), (15, .aconst_null, 1), (16, .putfield 18, 3), (19, .aload_n 0, 1), (20, .aconst_null, 1), (21, .putfield 21, 3), (24, .aload_n 0, 1), (25, .aconst_null, 1), (26, .putfield 24, 3), (29, .aload_n 0, 1), (30, .iload_n 1, 1), (31, .putfield 27, 3)], [(34, .aload_n 0, 1), (35, .lload_n 2, 1), (36, .putfield 31, 3), (39, .return_, 1)]]
theorem zo_66 : zd_of 66 = some zI_66 := rfl
set_option maxRecDepth 100000 in
theorem zq_66 : zt_m[66]? = some (⟨"ColumnVault$Node", "<init>", "(IJ)V"⟩, prog_8_method_1_code, 4, none, [], 8, 2, 0, 2, 99999, 0) := rfl
set_option maxHeartbeats 1000000 in
def f_Node_init (p0 : Nat) (p1 : Int32) (p2 : Int64) (h : zx_H) : Option (Unit × zx_H) :=
  zf_b (zf_put 8 2 p0 (.null) h) fun h1 =>
  zf_b (zf_put 8 3 p0 (.null) h1) fun h2 =>
  zf_b (zf_put 8 4 p0 (.null) h2) fun h3 =>
  zf_b (zf_put 8 5 p0 (.null) h3) fun h4 =>
  zf_b (zf_put 8 6 p0 (.null) h4) fun h5 =>
  zf_b (zf_put 8 0 p0 (.int p1) h5) fun h6 =>
  zf_b (zf_put 8 1 p0 (.long p2) h6) fun h7 =>
  some ((), h7)
set_option maxHeartbeats 4000000 in
set_option maxRecDepth 400000 in
theorem t_f_Node_init {sc : (Nat × (Nat → Int32)) × Bool} {d : Nat} (p0 : Nat) (p1 : Int32) (p2 : Int64) (h : zx_H) (r : Unit) (h' : zx_H) (hf : f_Node_init p0 p1 p2 h = some (r, h')) : zx_T sc d 66 (0, [(0, .ref p0), (1, .int p1), (2, .long p2)], []) h (zf_oV r) h' := by
  unfold f_Node_init at hf
  refine zv_p (k := 1) (f' := (1, [(0, .ref p0), (1, .int p1), (2, .long p2)], [.ref p0])) zq_66 zo_66 (by with_unfolding_all rfl) ?_
  refine zv_oi zq_66 zo_66 rfl rfl rfl ?_
  refine zv_p (k := 2) (f' := (6, [(0, .ref p0), (1, .int p1), (2, .long p2)], [.null, .ref p0])) zq_66 zo_66 (by with_unfolding_all rfl) ?_
  replace hf := zf_be hf
  obtain ⟨h1, hv, hf⟩ := hf
  refine zv_pf zq_66 zo_66 rfl rfl rfl rfl hv ?_
  refine zv_p (k := 2) (f' := (11, [(0, .ref p0), (1, .int p1), (2, .long p2)], [.null, .ref p0])) zq_66 zo_66 (by with_unfolding_all rfl) ?_
  replace hf := zf_be hf
  obtain ⟨h2, hv, hf⟩ := hf
  refine zv_pf zq_66 zo_66 rfl rfl rfl rfl hv ?_
  refine zv_p (k := 2) (f' := (16, [(0, .ref p0), (1, .int p1), (2, .long p2)], [.null, .ref p0])) zq_66 zo_66 (by with_unfolding_all rfl) ?_
  replace hf := zf_be hf
  obtain ⟨h3, hv, hf⟩ := hf
  refine zv_pf zq_66 zo_66 rfl rfl rfl rfl hv ?_
  refine zv_p (k := 2) (f' := (21, [(0, .ref p0), (1, .int p1), (2, .long p2)], [.null, .ref p0])) zq_66 zo_66 (by with_unfolding_all rfl) ?_
  replace hf := zf_be hf
  obtain ⟨h4, hv, hf⟩ := hf
  refine zv_pf zq_66 zo_66 rfl rfl rfl rfl hv ?_
  refine zv_p (k := 2) (f' := (26, [(0, .ref p0), (1, .int p1), (2, .long p2)], [.null, .ref p0])) zq_66 zo_66 (by with_unfolding_all rfl) ?_
  replace hf := zf_be hf
  obtain ⟨h5, hv, hf⟩ := hf
  refine zv_pf zq_66 zo_66 rfl rfl rfl rfl hv ?_
  refine zv_p (k := 2) (f' := (31, [(0, .ref p0), (1, .int p1), (2, .long p2)], [.int p1, .ref p0])) zq_66 zo_66 (by with_unfolding_all rfl) ?_
  replace hf := zf_be hf
  obtain ⟨h6, hv, hf⟩ := hf
  refine zv_pf zq_66 zo_66 rfl rfl rfl rfl hv ?_
  refine zv_p (k := 2) (f' := (36, [(0, .ref p0), (1, .int p1), (2, .long p2)], [.long p2, .ref p0])) zq_66 zo_66 (by with_unfolding_all rfl) ?_
  replace hf := zf_be hf
  obtain ⟨h7, hv, hf⟩ := hf
  refine zv_pf zq_66 zo_66 rfl rfl rfl rfl hv ?_
  cases hf
  exact zv_r zq_66 zo_66 rfl rfl rfl rfl rfl
/-! ColumnVault$Sheet.allRows ()J -/
noncomputable def zI_68 : zd_T := [[(0, .lconst 1, 1), (1, .aload_n 0, 1), (2, .getfield 26, 3), (5, .lshl, 1), (6, .lconst 1, 1), (7, .lsub, 1), (8, .lreturn, 1)]]
theorem zo_68 : zd_of 68 = some zI_68 := rfl
set_option maxRecDepth 100000 in
theorem zq_68 : zt_m[68]? = some (⟨"ColumnVault$Sheet", "allRows", "()J"⟩, prog_10_method_22_code, 1, some (.long), [], 10, 0, 0, 0, 0, 0) := rfl
set_option maxHeartbeats 1000000 in
def f_Sheet_allRows (p0 : Nat) (h : zx_H) : Option (Int64 × zx_H) :=
  zf_b (zf_I 10 4 p0 h) fun v1 =>
  some ((((1 : Int64) <<< ((v1).toInt64 &&& 63)) - (1 : Int64)), h)
set_option maxHeartbeats 4000000 in
set_option maxRecDepth 400000 in
theorem t_f_Sheet_allRows {sc : (Nat × (Nat → Int32)) × Bool} {d : Nat} (p0 : Nat) (h : zx_H) (r : Int64) (h' : zx_H) (hf : f_Sheet_allRows p0 h = some (r, h')) : zx_T sc d 68 (0, [(0, .ref p0)], []) h (zf_oJ r) h' := by
  unfold f_Sheet_allRows at hf
  refine zv_p (k := 2) (f' := (2, [(0, .ref p0)], [.ref p0, .long (1 : Int64)])) zq_68 zo_68 (by with_unfolding_all rfl) ?_
  replace hf := zf_be hf
  obtain ⟨v1, hv, hf⟩ := hf
  refine zv_gf zq_68 zo_68 rfl rfl rfl (zf_Ie hv) ?_
  refine zv_p (k := 3) (f' := (8, [(0, .ref p0)], [.long (((1 : Int64) <<< ((v1).toInt64 &&& 63)) - (1 : Int64))])) zq_68 zo_68 (by with_unfolding_all rfl) ?_
  cases hf
  exact zv_r zq_68 zo_68 rfl rfl rfl rfl rfl
/-! ColumnVault$Tokens.formAt (I)I -/
noncomputable def zI_71 : zd_T := [[(0, .iload_n 1, 1), (1, .ifCond .lt 20, 3), (4, .iload_n 1, 1), (5, .aload_n 0, 1), (6, .getfield 22, 3), (9, .if_icmp .ge 12, 3), (12, .aload_n 0, 1), (13, .getfield 9, 3), (16, .iload_n 1, 1), (17, .iaload, 1), (18, .goto 4, 3), (21, .iconst 0, 1), (22, .ireturn, 1)]]
theorem zo_71 : zd_of 71 = some zI_71 := rfl
set_option maxRecDepth 100000 in
theorem zq_71 : zt_m[71]? = some (⟨"ColumnVault$Tokens", "formAt", "(I)I"⟩, prog_11_method_7_code, 2, some (.int), [], 11, 1, 0, 0, 0, 0) := rfl
set_option maxHeartbeats 1000000 in
def f_Tokens_formAt (p0 : Nat) (p1 : Int32) (h : zx_H) : Option (Int32 × zx_H) :=
  if p1 < 0 then
    some ((0 : Int32), h)
  else
    zf_b (zf_I 11 3 p0 h) fun v1 =>
    if v1 ≤ p1 then
      some ((0 : Int32), h)
    else
      zf_b (zf_A 11 0 p0 h) fun v2 =>
      zf_b (zf_ldI v2 p1 h) fun v3 =>
      some (v3, h)
set_option maxHeartbeats 4000000 in
set_option maxRecDepth 400000 in
theorem t_f_Tokens_formAt {sc : (Nat × (Nat → Int32)) × Bool} {d : Nat} (p0 : Nat) (p1 : Int32) (h : zx_H) (r : Int32) (h' : zx_H) (hf : f_Tokens_formAt p0 p1 h = some (r, h')) : zx_T sc d 71 (0, [(0, .ref p0), (1, .int p1)], []) h (zf_oI r) h' := by
  unfold f_Tokens_formAt at hf
  refine zv_p (k := 1) (f' := (1, [(0, .ref p0), (1, .int p1)], [.int p1])) zq_71 zo_71 (by with_unfolding_all rfl) ?_
  replace hf := zf_ite hf
  obtain ⟨hc, hf⟩ | ⟨hc, hf⟩ := hf
  · refine zv_brT (off := 20) (tt := 21) (r := []) zq_71 zo_71 hc rfl rfl rfl ?_
    refine zv_p (k := 1) (f' := (22, [(0, .ref p0), (1, .int p1)], [.int (0 : Int32)])) zq_71 zo_71 (by with_unfolding_all rfl) ?_
    cases hf
    exact zv_rn zq_71 zo_71 rfl rfl
  · refine zv_brF (off := 20) (tt := 21) (r := []) zq_71 zo_71 hc rfl rfl rfl ?_
    refine zv_p (k := 2) (f' := (6, [(0, .ref p0), (1, .int p1)], [.ref p0, .int p1])) zq_71 zo_71 (by with_unfolding_all rfl) ?_
    replace hf := zf_be hf
    obtain ⟨v1, hv, hf⟩ := hf
    refine zv_gf zq_71 zo_71 rfl rfl rfl (zf_Ie hv) ?_
    replace hf := zf_ite hf
    obtain ⟨hc, hf⟩ | ⟨hc, hf⟩ := hf
    · refine zv_brT (off := 12) (tt := 21) (r := []) zq_71 zo_71 hc rfl rfl rfl ?_
      refine zv_p (k := 1) (f' := (22, [(0, .ref p0), (1, .int p1)], [.int (0 : Int32)])) zq_71 zo_71 (by with_unfolding_all rfl) ?_
      cases hf
      exact zv_rn zq_71 zo_71 rfl rfl
    · refine zv_brF (off := 12) (tt := 21) (r := []) zq_71 zo_71 hc rfl rfl rfl ?_
      refine zv_p (k := 1) (f' := (13, [(0, .ref p0), (1, .int p1)], [.ref p0])) zq_71 zo_71 (by with_unfolding_all rfl) ?_
      replace hf := zf_be hf
      obtain ⟨v2, hv, hf⟩ := hf
      refine zv_gf zq_71 zo_71 rfl rfl rfl (zf_Ae hv) ?_
      refine zv_p (k := 1) (f' := (17, [(0, .ref p0), (1, .int p1)], [.int p1, .ref v2])) zq_71 zo_71 (by with_unfolding_all rfl) ?_
      replace hf := zf_be hf
      obtain ⟨v3, hv, hf⟩ := hf
      refine zv_ldI zq_71 zo_71 rfl hv ?_
      refine zv_p (k := 1) (f' := (22, [(0, .ref p0), (1, .int p1)], [.int v3])) zq_71 zo_71 (by with_unfolding_all rfl) ?_
      cases hf
      exact zv_rn zq_71 zo_71 rfl rfl
/-! ColumnVault$FilterReader.takes (I)Z -/
noncomputable def zI_70 : zd_T := [[(0, .aload_n 0, 1), (1, .getfield 28, 3), (4, .aload_n 0, 1), (5, .getfield 19, 3), (8, .invokevirtual 46, 3), (11, .iload_n 1, 1), (12, .if_icmp .eq 5, 3), (15, .iconst 0, 1), (16, .ireturn, 1), (17, .aload_n 0, 1), (18, .dup, 1), (19, .getfield 19, 3), (22, .iconst 1, 1), (23, .iadd, 1), (24, .putfield 19, 3), (27, .iconst 1, 1), (28, .ireturn, 1)]]
theorem zo_70 : zd_of 70 = some zI_70 := rfl
set_option maxRecDepth 100000 in
theorem zq_70 : zt_m[70]? = some (⟨"ColumnVault$FilterReader", "takes", "(I)Z"⟩, prog_3_method_4_code, 2, some (.boolean), [], 3, 1, 0, 0, 0, 0) := rfl
set_option maxHeartbeats 1000000 in
def f_FilterReader_takes (p0 : Nat) (p1 : Int32) (h : zx_H) : Option (Int32 × zx_H) :=
  zf_b (zf_A 3 0 p0 h) fun v1 =>
  zf_b (zf_I 3 4 p0 h) fun v2 =>
  zf_b (zf_is 11 v1 h) fun _ =>
  zf_b2 (f_Tokens_formAt v1 v2 h) fun v3 h4 =>
  if v3 = p1 then
    zf_b (zf_I 3 4 p0 h4) fun v5 =>
    zf_b (zf_put 3 4 p0 (.int (v5 + (1 : Int32))) h4) fun h6 =>
    some ((1 : Int32), h6)
  else
    some ((0 : Int32), h4)
set_option maxHeartbeats 4000000 in
set_option maxRecDepth 400000 in
theorem t_f_FilterReader_takes {sc : (Nat × (Nat → Int32)) × Bool} {d : Nat} (p0 : Nat) (p1 : Int32) (h : zx_H) (r : Int32) (h' : zx_H) (hf : f_FilterReader_takes p0 p1 h = some (r, h')) : zx_T sc (d + 1) 70 (0, [(0, .ref p0), (1, .int p1)], []) h (zf_oI r) h' := by
  unfold f_FilterReader_takes at hf
  refine zv_p (k := 1) (f' := (1, [(0, .ref p0), (1, .int p1)], [.ref p0])) zq_70 zo_70 (by with_unfolding_all rfl) ?_
  replace hf := zf_be hf
  obtain ⟨v1, hv, hf⟩ := hf
  refine zv_gf zq_70 zo_70 rfl rfl rfl (zf_Ae hv) ?_
  refine zv_p (k := 1) (f' := (5, [(0, .ref p0), (1, .int p1)], [.ref p0, .ref v1])) zq_70 zo_70 (by with_unfolding_all rfl) ?_
  replace hf := zf_be hf
  obtain ⟨v2, hv, hf⟩ := hf
  refine zv_gf zq_70 zo_70 rfl rfl rfl (zf_Ie hv) ?_
  replace hf := zf_be hf
  obtain ⟨_, ho, hf⟩ := hf
  replace hf := zf_b2e hf
  obtain ⟨v3, h4, hv, hf⟩ := hf
  refine zv_c zq_70 zo_70 rfl rfl rfl rfl rfl (zv_cv rfl rfl rfl (zf_ise ho) rfl) (t_f_Tokens_formAt _ _ _ _ _ hv) ?_
  refine zv_p (k := 1) (f' := (12, [(0, .ref p0), (1, .int p1)], [.int p1, .int v3])) zq_70 zo_70 (by with_unfolding_all rfl) ?_
  replace hf := zf_ite hf
  obtain ⟨hc, hf⟩ | ⟨hc, hf⟩ := hf
  · refine zv_brT (off := 5) (tt := 17) (r := []) zq_70 zo_70 hc rfl rfl rfl ?_
    refine zv_p (k := 2) (f' := (19, [(0, .ref p0), (1, .int p1)], [.ref p0, .ref p0])) zq_70 zo_70 (by with_unfolding_all rfl) ?_
    replace hf := zf_be hf
    obtain ⟨v5, hv, hf⟩ := hf
    refine zv_gf zq_70 zo_70 rfl rfl rfl (zf_Ie hv) ?_
    refine zv_p (k := 2) (f' := (24, [(0, .ref p0), (1, .int p1)], [.int (v5 + (1 : Int32)), .ref p0])) zq_70 zo_70 (by with_unfolding_all rfl) ?_
    replace hf := zf_be hf
    obtain ⟨h6, hv, hf⟩ := hf
    refine zv_pf zq_70 zo_70 rfl rfl rfl rfl hv ?_
    refine zv_p (k := 1) (f' := (28, [(0, .ref p0), (1, .int p1)], [.int (1 : Int32)])) zq_70 zo_70 (by with_unfolding_all rfl) ?_
    cases hf
    exact zv_rn zq_70 zo_70 rfl rfl
  · refine zv_brF (off := 5) (tt := 17) (r := []) zq_70 zo_70 hc rfl rfl rfl ?_
    refine zv_p (k := 1) (f' := (16, [(0, .ref p0), (1, .int p1)], [.int (0 : Int32)])) zq_70 zo_70 (by with_unfolding_all rfl) ?_
    cases hf
    exact zv_rn zq_70 zo_70 rfl rfl
/-! ColumnVault$Tokens.placeAt (I)I -/
noncomputable def zI_72 : zd_T := [[(0, .iload_n 1, 1), (1, .ifCond .lt 20, 3), (4, .iload_n 1, 1), (5, .aload_n 0, 1), (6, .getfield 22, 3), (9, .if_icmp .ge 12, 3), (12, .aload_n 0, 1), (13, .getfield 15, 3), (16, .iload_n 1, 1), (17, .iaload, 1), (18, .goto 4, 3), (21, .iconst (-1), 1), (22, .ireturn, 1)]]
theorem zo_72 : zd_of 72 = some zI_72 := rfl
set_option maxRecDepth 100000 in
theorem zq_72 : zt_m[72]? = some (⟨"ColumnVault$Tokens", "placeAt", "(I)I"⟩, prog_11_method_8_code, 2, some (.int), [], 11, 1, 0, 0, 0, 0) := rfl
