set_option maxHeartbeats 1000000 in
def f_FilterReader_readTest (p0 : Nat) (h : zx_H) : Option (Option Nat × zx_H) :=
  zf_b (zf_A 3 0 p0 h) fun v1 =>
  zf_b (zf_I 3 4 p0 h) fun v2 =>
  zf_b (zf_is 11 v1 h) fun _ =>
  zf_b2 (f_Tokens_valueAt v1 v2 h) fun v3 h4 =>
  if ¬ (v3).toInt32 = (-1 : Int32) then
    zf_b (zf_A 3 1 p0 h4) fun v5 =>
    zf_b (zf_is 10 v5 h4) fun _ =>
    zf_b2 (f_Sheet_hasColumn v5 ((v3).toInt32) h4) fun v6 h7 =>
    if ¬ v6 = 0 then
      zf_b (zf_I 3 4 p0 h7) fun v8 =>
      zf_b (zf_is 3 p0 h7) fun _ =>
      zf_b2 (f_FilterReader_askedBy p0 (v8 + (1 : Int32)) h7) fun v9 h10 =>
      if ¬ v9 = (-1 : Int32) then
        zf_b (zf_I 3 4 p0 h10) fun v11 =>
        zf_b (zf_put 3 4 p0 (.int (v11 + (2 : Int32))) h10) fun h12 =>
        zf_b (zf_A 3 1 p0 h12) fun v13 =>
        zf_b (zf_is 10 v13 h12) fun _ =>
        zf_b2 (f_Sheet_kindOf v13 ((v3).toInt32) h12) fun v14 h15 =>
        zf_b (zf_is 3 p0 h15) fun _ =>
        zf_b2 (f_FilterReader_readValues p0 v9 v14 h15) fun v16 h17 =>
        if v16 = 0 then
          some (none, h17)
        else
          zf_b2 (zf_new 8 h17) fun q18 h19 =>
          zf_b (zf_is 3 p0 h19) fun _ =>
          zf_b2 (f_FilterReader_rowsOfTest p0 ((v3).toInt32) v9 h19) fun v20 h21 =>
          zf_b2 (f_Node_init q18 (0 : Int32) v20 h21) fun _ h23 =>
          some ((some q18), h23)
      else
        zf_b (zf_A 3 0 p0 h10) fun v24 =>
        zf_b (zf_I 3 4 p0 h10) fun v25 =>
        zf_b (zf_is 11 v24 h10) fun _ =>
        zf_b2 (f_Tokens_placeAt v24 (v25 + (1 : Int32)) h10) fun v26 h27 =>
        zf_b (zf_is 3 p0 h27) fun _ =>
        zf_b2 (f_FilterReader_fail p0 (1 : Int32) v26 h27) fun v28 h29 =>
        some (v28, h29)
    else
      zf_b (zf_A 3 0 p0 h7) fun v30 =>
      zf_b (zf_I 3 4 p0 h7) fun v31 =>
      zf_b (zf_is 11 v30 h7) fun _ =>
      zf_b2 (f_Tokens_placeAt v30 v31 h7) fun v32 h33 =>
      zf_b (zf_is 3 p0 h33) fun _ =>
      zf_b2 (f_FilterReader_fail p0 (2 : Int32) v32 h33) fun v34 h35 =>
      some (v34, h35)
  else
    zf_b (zf_A 3 0 p0 h4) fun v36 =>
    zf_b (zf_I 3 4 p0 h4) fun v37 =>
    zf_b (zf_is 11 v36 h4) fun _ =>
    zf_b2 (f_Tokens_placeAt v36 v37 h4) fun v38 h39 =>
    zf_b (zf_is 3 p0 h39) fun _ =>
    zf_b2 (f_FilterReader_fail p0 (1 : Int32) (v38 + (1 : Int32)) h39) fun v40 h41 =>
    some (v40, h41)
set_option maxHeartbeats 4000000 in
set_option maxRecDepth 400000 in
theorem t_f_FilterReader_readTest {sc : (Nat × (Nat → Int32)) × Bool} {d : Nat} (p0 : Nat) (h : zx_H) (r : Option Nat) (h' : zx_H) (hf : f_FilterReader_readTest p0 h = some (r, h')) : zx_T sc (d + 3) 75 (0, [(0, .ref p0)], []) h (zf_oN r) h' := by
  unfold f_FilterReader_readTest at hf
  refine zv_p (k := 1) (f' := (1, [(0, .ref p0)], [.ref p0])) zq_75 zo_75 (by with_unfolding_all rfl) ?_
  replace hf := zf_be hf
  obtain ⟨v1, hv, hf⟩ := hf
  refine zv_gf zq_75 zo_75 rfl rfl rfl (zf_Ae hv) ?_
  refine zv_p (k := 1) (f' := (5, [(0, .ref p0)], [.ref p0, .ref v1])) zq_75 zo_75 (by with_unfolding_all rfl) ?_
  replace hf := zf_be hf
  obtain ⟨v2, hv, hf⟩ := hf
  refine zv_gf zq_75 zo_75 rfl rfl rfl (zf_Ie hv) ?_
  replace hf := zf_be hf
  obtain ⟨_, ho, hf⟩ := hf
  replace hf := zf_b2e hf
  obtain ⟨v3, h4, hv, hf⟩ := hf
  refine zv_c zq_75 zo_75 rfl rfl rfl rfl rfl (zv_cv rfl rfl rfl (zf_ise ho) rfl) (t_f_Tokens_valueAt _ _ _ _ _ hv) ?_
  refine zv_p (k := 4) (f' := (15, [(1, .int (v3).toInt32), (0, .ref p0)], [.int (-1 : Int32), .int (v3).toInt32])) zq_75 zo_75 (by with_unfolding_all rfl) ?_
  replace hf := zf_ite hf
  obtain ⟨hc, hf⟩ | ⟨hc, hf⟩ := hf
  · refine zv_brT (off := 22) (tt := 37) (r := []) zq_75 zo_75 hc rfl rfl rfl ?_
    refine zv_p (k := 1) (f' := (38, [(1, .int (v3).toInt32), (0, .ref p0)], [.ref p0])) zq_75 zo_75 (by with_unfolding_all rfl) ?_
    replace hf := zf_be hf
    obtain ⟨v5, hv, hf⟩ := hf
    refine zv_gf zq_75 zo_75 rfl rfl rfl (zf_Ae hv) ?_
    refine zv_p (k := 1) (f' := (42, [(1, .int (v3).toInt32), (0, .ref p0)], [.int (v3).toInt32, .ref v5])) zq_75 zo_75 (by with_unfolding_all rfl) ?_
    replace hf := zf_be hf
    obtain ⟨_, ho, hf⟩ := hf
    replace hf := zf_b2e hf
    obtain ⟨v6, h7, hv, hf⟩ := hf
    refine zv_c zq_75 zo_75 rfl rfl rfl rfl rfl (zv_cv rfl rfl rfl (zf_ise ho) rfl) (t_f_Sheet_hasColumn _ _ _ _ _ hv) ?_
    replace hf := zf_ite hf
    obtain ⟨hc, hf⟩ | ⟨hc, hf⟩ := hf
    · refine zv_brT (off := 20) (tt := 65) (r := []) zq_75 zo_75 hc rfl rfl rfl ?_
      refine zv_p (k := 2) (f' := (67, [(1, .int (v3).toInt32), (0, .ref p0)], [.ref p0, .ref p0])) zq_75 zo_75 (by with_unfolding_all rfl) ?_
      replace hf := zf_be hf
      obtain ⟨v8, hv, hf⟩ := hf
      refine zv_gf zq_75 zo_75 rfl rfl rfl (zf_Ie hv) ?_
      refine zv_p (k := 2) (f' := (72, [(1, .int (v3).toInt32), (0, .ref p0)], [.int (v8 + (1 : Int32)), .ref p0])) zq_75 zo_75 (by with_unfolding_all rfl) ?_
      replace hf := zf_be hf
      obtain ⟨_, ho, hf⟩ := hf
      replace hf := zf_b2e hf
      obtain ⟨v9, h10, hv, hf⟩ := hf
      refine zv_c zq_75 zo_75 rfl rfl rfl rfl rfl (zv_cv rfl rfl rfl (zf_ise ho) rfl) (t_f_FilterReader_askedBy _ _ _ _ _ hv) ?_
      refine zv_p (k := 3) (f' := (78, [(2, .int v9), (1, .int (v3).toInt32), (0, .ref p0)], [.int (-1 : Int32), .int v9])) zq_75 zo_75 (by with_unfolding_all rfl) ?_
      replace hf := zf_ite hf
      obtain ⟨hc, hf⟩ | ⟨hc, hf⟩ := hf
      · refine zv_brT (off := 22) (tt := 100) (r := []) zq_75 zo_75 hc rfl rfl rfl ?_
        refine zv_p (k := 2) (f' := (102, [(2, .int v9), (1, .int (v3).toInt32), (0, .ref p0)], [.ref p0, .ref p0])) zq_75 zo_75 (by with_unfolding_all rfl) ?_
        replace hf := zf_be hf
        obtain ⟨v11, hv, hf⟩ := hf
        refine zv_gf zq_75 zo_75 rfl rfl rfl (zf_Ie hv) ?_
        refine zv_p (k := 2) (f' := (107, [(2, .int v9), (1, .int (v3).toInt32), (0, .ref p0)], [.int (v11 + (2 : Int32)), .ref p0])) zq_75 zo_75 (by with_unfolding_all rfl) ?_
        replace hf := zf_be hf
        obtain ⟨h12, hv, hf⟩ := hf
        refine zv_pf zq_75 zo_75 rfl rfl rfl rfl hv ?_
        refine zv_p (k := 3) (f' := (113, [(2, .int v9), (1, .int (v3).toInt32), (0, .ref p0)], [.ref p0, .int v9, .ref p0])) zq_75 zo_75 (by with_unfolding_all rfl) ?_
        replace hf := zf_be hf
        obtain ⟨v13, hv, hf⟩ := hf
        refine zv_gf zq_75 zo_75 rfl rfl rfl (zf_Ae hv) ?_
        refine zv_p (k := 1) (f' := (117, [(2, .int v9), (1, .int (v3).toInt32), (0, .ref p0)], [.int (v3).toInt32, .ref v13, .int v9, .ref p0])) zq_75 zo_75 (by with_unfolding_all rfl) ?_
        replace hf := zf_be hf
        obtain ⟨_, ho, hf⟩ := hf
        replace hf := zf_b2e hf
        obtain ⟨v14, h15, hv, hf⟩ := hf
        refine zv_c zq_75 zo_75 rfl rfl rfl rfl rfl (zv_cv rfl rfl rfl (zf_ise ho) rfl) (t_f_Sheet_kindOf _ _ _ _ _ hv) ?_
        replace hf := zf_be hf
        obtain ⟨_, ho, hf⟩ := hf
        replace hf := zf_b2e hf
        obtain ⟨v16, h17, hv, hf⟩ := hf
        refine zv_c zq_75 zo_75 rfl rfl rfl rfl rfl (zv_cv rfl rfl rfl (zf_ise ho) rfl) (t_f_FilterReader_readValues _ _ _ _ _ _ hv) ?_
        replace hf := zf_ite hf
        obtain ⟨hc, hf⟩ | ⟨hc, hf⟩ := hf
        · refine zv_brT (off := 20) (tt := 143) (r := []) zq_75 zo_75 hc rfl rfl rfl ?_
          refine zv_p (k := 1) (f' := (144, [(2, .int v9), (1, .int (v3).toInt32), (0, .ref p0)], [.null])) zq_75 zo_75 (by with_unfolding_all rfl) ?_
          cases hf
          exact zv_r zq_75 zo_75 rfl rfl rfl rfl rfl
        · refine zv_brF (off := 20) (tt := 143) (r := []) zq_75 zo_75 hc rfl rfl rfl ?_
          replace hf := zf_b2e hf
          obtain ⟨q18, h19, hv, hf⟩ := hf
          refine zv_new zq_75 zo_75 rfl rfl rfl hv ?_
          refine zv_p (k := 5) (f' := (134, [(2, .int v9), (1, .int (v3).toInt32), (0, .ref p0)], [.int v9, .int (v3).toInt32, .ref p0, .int (0 : Int32), .ref q18, .ref q18])) zq_75 zo_75 (by with_unfolding_all rfl) ?_
          replace hf := zf_be hf
          obtain ⟨_, ho, hf⟩ := hf
          replace hf := zf_b2e hf
          obtain ⟨v20, h21, hv, hf⟩ := hf
          refine zv_c zq_75 zo_75 rfl rfl rfl rfl rfl (zv_cv rfl rfl rfl (zf_ise ho) rfl) (t_f_FilterReader_rowsOfTest _ _ _ _ _ _ hv) ?_
          replace hf := zf_b2e hf
          obtain ⟨v22, h23, hv, hf⟩ := hf
          refine zv_c zq_75 zo_75 rfl rfl rfl rfl rfl rfl (t_f_Node_init _ _ _ _ _ _ hv) ?_
          refine zv_p (k := 1) (f' := (144, [(2, .int v9), (1, .int (v3).toInt32), (0, .ref p0)], [.ref q18])) zq_75 zo_75 (by with_unfolding_all rfl) ?_
          cases hf
          exact zv_r zq_75 zo_75 rfl rfl rfl rfl rfl
      · refine zv_brF (off := 22) (tt := 100) (r := []) zq_75 zo_75 hc rfl rfl rfl ?_
        refine zv_p (k := 3) (f' := (84, [(2, .int v9), (1, .int (v3).toInt32), (0, .ref p0)], [.ref p0, .int (1 : Int32), .ref p0])) zq_75 zo_75 (by with_unfolding_all rfl) ?_
        replace hf := zf_be hf
        obtain ⟨v24, hv, hf⟩ := hf
        refine zv_gf zq_75 zo_75 rfl rfl rfl (zf_Ae hv) ?_
        refine zv_p (k := 1) (f' := (88, [(2, .int v9), (1, .int (v3).toInt32), (0, .ref p0)], [.ref p0, .ref v24, .int (1 : Int32), .ref p0])) zq_75 zo_75 (by with_unfolding_all rfl) ?_
        replace hf := zf_be hf
        obtain ⟨v25, hv, hf⟩ := hf
        refine zv_gf zq_75 zo_75 rfl rfl rfl (zf_Ie hv) ?_
        refine zv_p (k := 2) (f' := (93, [(2, .int v9), (1, .int (v3).toInt32), (0, .ref p0)], [.int (v25 + (1 : Int32)), .ref v24, .int (1 : Int32), .ref p0])) zq_75 zo_75 (by with_unfolding_all rfl) ?_
        replace hf := zf_be hf
        obtain ⟨_, ho, hf⟩ := hf
        replace hf := zf_b2e hf
        obtain ⟨v26, h27, hv, hf⟩ := hf
        refine zv_c zq_75 zo_75 rfl rfl rfl rfl rfl (zv_cv rfl rfl rfl (zf_ise ho) rfl) (t_f_Tokens_placeAt _ _ _ _ _ hv) ?_
        replace hf := zf_be hf
        obtain ⟨_, ho, hf⟩ := hf
        replace hf := zf_b2e hf
        obtain ⟨v28, h29, hv, hf⟩ := hf
        refine zv_c zq_75 zo_75 rfl rfl rfl rfl rfl (zv_cv rfl rfl rfl (zf_ise ho) rfl) (t_f_FilterReader_fail _ _ _ _ _ _ hv) ?_
        cases hf
        exact zv_r zq_75 zo_75 rfl (by cases r <;> rfl) (by cases r <;> rfl) (by cases r <;> rfl) (by cases r <;> rfl)
    · refine zv_brF (off := 20) (tt := 65) (r := []) zq_75 zo_75 hc rfl rfl rfl ?_
      refine zv_p (k := 3) (f' := (51, [(1, .int (v3).toInt32), (0, .ref p0)], [.ref p0, .int (2 : Int32), .ref p0])) zq_75 zo_75 (by with_unfolding_all rfl) ?_
      replace hf := zf_be hf
      obtain ⟨v30, hv, hf⟩ := hf
      refine zv_gf zq_75 zo_75 rfl rfl rfl (zf_Ae hv) ?_
      refine zv_p (k := 1) (f' := (55, [(1, .int (v3).toInt32), (0, .ref p0)], [.ref p0, .ref v30, .int (2 : Int32), .ref p0])) zq_75 zo_75 (by with_unfolding_all rfl) ?_
      replace hf := zf_be hf
      obtain ⟨v31, hv, hf⟩ := hf
      refine zv_gf zq_75 zo_75 rfl rfl rfl (zf_Ie hv) ?_
      replace hf := zf_be hf
      obtain ⟨_, ho, hf⟩ := hf
      replace hf := zf_b2e hf
      obtain ⟨v32, h33, hv, hf⟩ := hf
      refine zv_c zq_75 zo_75 rfl rfl rfl rfl rfl (zv_cv rfl rfl rfl (zf_ise ho) rfl) (t_f_Tokens_placeAt _ _ _ _ _ hv) ?_
      replace hf := zf_be hf
      obtain ⟨_, ho, hf⟩ := hf
      replace hf := zf_b2e hf
      obtain ⟨v34, h35, hv, hf⟩ := hf
      refine zv_c zq_75 zo_75 rfl rfl rfl rfl rfl (zv_cv rfl rfl rfl (zf_ise ho) rfl) (t_f_FilterReader_fail _ _ _ _ _ _ hv) ?_
      cases hf
      exact zv_r zq_75 zo_75 rfl (by cases r <;> rfl) (by cases r <;> rfl) (by cases r <;> rfl) (by cases r <;> rfl)
  · refine zv_brF (off := 22) (tt := 37) (r := []) zq_75 zo_75 hc rfl rfl rfl ?_
    refine zv_p (k := 3) (f' := (21, [(1, .int (v3).toInt32), (0, .ref p0)], [.ref p0, .int (1 : Int32), .ref p0])) zq_75 zo_75 (by with_unfolding_all rfl) ?_
    replace hf := zf_be hf
    obtain ⟨v36, hv, hf⟩ := hf
    refine zv_gf zq_75 zo_75 rfl rfl rfl (zf_Ae hv) ?_
    refine zv_p (k := 1) (f' := (25, [(1, .int (v3).toInt32), (0, .ref p0)], [.ref p0, .ref v36, .int (1 : Int32), .ref p0])) zq_75 zo_75 (by with_unfolding_all rfl) ?_
    replace hf := zf_be hf
    obtain ⟨v37, hv, hf⟩ := hf
    refine zv_gf zq_75 zo_75 rfl rfl rfl (zf_Ie hv) ?_
    replace hf := zf_be hf
    obtain ⟨_, ho, hf⟩ := hf
    replace hf := zf_b2e hf
    obtain ⟨v38, h39, hv, hf⟩ := hf
    refine zv_c zq_75 zo_75 rfl rfl rfl rfl rfl (zv_cv rfl rfl rfl (zf_ise ho) rfl) (t_f_Tokens_placeAt _ _ _ _ _ hv) ?_
    refine zv_p (k := 2) (f' := (33, [(1, .int (v3).toInt32), (0, .ref p0)], [.int (v38 + (1 : Int32)), .int (1 : Int32), .ref p0])) zq_75 zo_75 (by with_unfolding_all rfl) ?_
    replace hf := zf_be hf
    obtain ⟨_, ho, hf⟩ := hf
    replace hf := zf_b2e hf
    obtain ⟨v40, h41, hv, hf⟩ := hf
    refine zv_c zq_75 zo_75 rfl rfl rfl rfl rfl (zv_cv rfl rfl rfl (zf_ise ho) rfl) (t_f_FilterReader_fail _ _ _ _ _ _ hv) ?_
    cases hf
    exact zv_r zq_75 zo_75 rfl (by cases r <;> rfl) (by cases r <;> rfl) (by cases r <;> rfl) (by cases r <;> rfl)
/-! ColumnVault$Node.turn (J)V -/
noncomputable def zI_82 : zd_T := [[(0, .aload_n 0, 1), (1, .lload_n 1, 1), (2, .aload_n 0, 1), (3, .getfield 31, 3), (6, .ldc2_w 35, 3), (9, .lxor, 1), (10, .land, 1), (11, .putfield 31, 3), (14, .return_, 1)]]
theorem zo_82 : zd_of 82 = some zI_82 := rfl
set_option maxRecDepth 100000 in
theorem zq_82 : zt_m[82]? = some (⟨"ColumnVault$Node", "turn", "(J)V"⟩, prog_8_method_2_code, 3, none, [], 8, 1, 0, 0, 0, 0) := rfl
set_option maxHeartbeats 1000000 in
def f_Node_turn (p0 : Nat) (p1 : Int64) (h : zx_H) : Option (Unit × zx_H) :=
  zf_b (zf_J 8 1 p0 h) fun v1 =>
  zf_b (zf_put 8 1 p0 (.long (p1 &&& (v1 ^^^ (-1 : Int64)))) h) fun h2 =>
  some ((), h2)
set_option maxHeartbeats 4000000 in
set_option maxRecDepth 400000 in
theorem t_f_Node_turn {sc : (Nat × (Nat → Int32)) × Bool} {d : Nat} (p0 : Nat) (p1 : Int64) (h : zx_H) (r : Unit) (h' : zx_H) (hf : f_Node_turn p0 p1 h = some (r, h')) : zx_T sc d 82 (0, [(0, .ref p0), (1, .long p1)], []) h (zf_oV r) h' := by
  unfold f_Node_turn at hf
  refine zv_p (k := 3) (f' := (3, [(0, .ref p0), (1, .long p1)], [.ref p0, .long p1, .ref p0])) zq_82 zo_82 (by with_unfolding_all rfl) ?_
  replace hf := zf_be hf
  obtain ⟨v1, hv, hf⟩ := hf
  refine zv_gf zq_82 zo_82 rfl rfl rfl (zf_Je hv) ?_
  refine zv_lng zq_82 zo_82 rfl rfl ?_
  refine zv_p (k := 2) (f' := (11, [(0, .ref p0), (1, .long p1)], [.long (p1 &&& (v1 ^^^ (-1 : Int64))), .ref p0])) zq_82 zo_82 (by with_unfolding_all rfl) ?_
  replace hf := zf_be hf
  obtain ⟨h2, hv, hf⟩ := hf
  refine zv_pf zq_82 zo_82 rfl rfl rfl rfl hv ?_
  cases hf
  exact zv_r zq_82 zo_82 rfl rfl rfl rfl rfl
/-! ColumnVault$Node.isFirst (LColumnVault$Node;LColumnVault$Node;)Z -/
noncomputable def zI_85 : zd_T := [[(0, .aload_n 1, 1), (1, .getfield 31, 3), (4, .invokestatic 45, 3), (7, .istore_n 3, 1), (8, .aload_n 2, 1), (9, .getfield 31, 3), (12, .invokestatic 45, 3), (15, .istore 4, 2), (17, .aload_n 0, 1), (18, .getfield 27, 3), (21, .iconst 1, 1), (22, .if_icmp .ne 17, 3), (25, .iload_n 3, 1), (26, .iload 4, 2), (28, .if_icmp .ge 7, 3), (31, .iconst 1, 1)], [(32, .goto 18, 3), (35, .iconst 0, 1), (36, .goto 14, 3), (39, .iload_n 3, 1), (40, .iload 4, 2), (42, .if_icmp .le 7, 3), (45, .iconst 1, 1), (46, .goto 4, 3), (49, .iconst 0, 1), (50, .ireturn, 1)]]
theorem zo_85 : zd_of 85 = some zI_85 := rfl
set_option maxRecDepth 100000 in
theorem zq_85 : zt_m[85]? = some (⟨"ColumnVault$Node", "isFirst", "(LColumnVault$Node;LColumnVault$Node;)Z"⟩, prog_8_method_5_code, 5, some (.boolean), [], 8, 2, 0, 0, 0, 0) := rfl
set_option maxHeartbeats 1000000 in
def f_Node_isFirst (p0 : Nat) (p1 : Nat) (p2 : Nat) (h : zx_H) : Option (Int32 × zx_H) :=
  zf_b (zf_J 8 1 p1 h) fun v1 =>
  zf_b2 (f_Long_bitCount v1 h) fun v2 h3 =>
  zf_b (zf_J 8 1 p2 h3) fun v4 =>
  zf_b2 (f_Long_bitCount v4 h3) fun v5 h6 =>
  zf_b (zf_I 8 0 p0 h6) fun v7 =>
  if ¬ v7 = (1 : Int32) then
    if v2 ≤ v5 then
      some ((0 : Int32), h6)
    else
      some ((1 : Int32), h6)
  else
    if v5 ≤ v2 then
      some ((0 : Int32), h6)
    else
      some ((1 : Int32), h6)
set_option maxHeartbeats 4000000 in
set_option maxRecDepth 400000 in
theorem t_f_Node_isFirst {sc : (Nat × (Nat → Int32)) × Bool} {d : Nat} (p0 : Nat) (p1 : Nat) (p2 : Nat) (h : zx_H) (r : Int32) (h' : zx_H) (hf : f_Node_isFirst p0 p1 p2 h = some (r, h')) : zx_T sc (d + 1) 85 (0, [(0, .ref p0), (1, .ref p1), (2, .ref p2)], []) h (zf_oI r) h' := by
  unfold f_Node_isFirst at hf
  refine zv_p (k := 1) (f' := (1, [(0, .ref p0), (1, .ref p1), (2, .ref p2)], [.ref p1])) zq_85 zo_85 (by with_unfolding_all rfl) ?_
  replace hf := zf_be hf
  obtain ⟨v1, hv, hf⟩ := hf
  refine zv_gf zq_85 zo_85 rfl rfl rfl (zf_Je hv) ?_
  replace hf := zf_b2e hf
  obtain ⟨v2, h3, hv, hf⟩ := hf
  refine zv_c zq_85 zo_85 rfl rfl rfl rfl rfl rfl (t_f_Long_bitCount _ _ _ _ hv) ?_
  refine zv_p (k := 2) (f' := (9, [(3, .int v2), (0, .ref p0), (1, .ref p1), (2, .ref p2)], [.ref p2])) zq_85 zo_85 (by with_unfolding_all rfl) ?_
  replace hf := zf_be hf
  obtain ⟨v4, hv, hf⟩ := hf
  refine zv_gf zq_85 zo_85 rfl rfl rfl (zf_Je hv) ?_
  replace hf := zf_b2e hf
  obtain ⟨v5, h6, hv, hf⟩ := hf
  refine zv_c zq_85 zo_85 rfl rfl rfl rfl rfl rfl (t_f_Long_bitCount _ _ _ _ hv) ?_
  refine zv_p (k := 2) (f' := (18, [(4, .int v5), (3, .int v2), (0, .ref p0), (1, .ref p1), (2, .ref p2)], [.ref p0])) zq_85 zo_85 (by with_unfolding_all rfl) ?_
  replace hf := zf_be hf
  obtain ⟨v7, hv, hf⟩ := hf
  refine zv_gf zq_85 zo_85 rfl rfl rfl (zf_Ie hv) ?_
  refine zv_p (k := 1) (f' := (22, [(4, .int v5), (3, .int v2), (0, .ref p0), (1, .ref p1), (2, .ref p2)], [.int (1 : Int32), .int v7])) zq_85 zo_85 (by with_unfolding_all rfl) ?_
  replace hf := zf_ite hf
  obtain ⟨hc, hf⟩ | ⟨hc, hf⟩ := hf
  · refine zv_brT (off := 17) (tt := 39) (r := []) zq_85 zo_85 hc rfl rfl rfl ?_
    refine zv_p (k := 2) (f' := (42, [(4, .int v5), (3, .int v2), (0, .ref p0), (1, .ref p1), (2, .ref p2)], [.int v5, .int v2])) zq_85 zo_85 (by with_unfolding_all rfl) ?_
    replace hf := zf_ite hf
    obtain ⟨hc, hf⟩ | ⟨hc, hf⟩ := hf
    · refine zv_brT (off := 7) (tt := 49) (r := []) zq_85 zo_85 hc rfl rfl rfl ?_
      refine zv_p (k := 1) (f' := (50, [(4, .int v5), (3, .int v2), (0, .ref p0), (1, .ref p1), (2, .ref p2)], [.int (0 : Int32)])) zq_85 zo_85 (by with_unfolding_all rfl) ?_
      cases hf
      exact zv_rn zq_85 zo_85 rfl rfl
    · refine zv_brF (off := 7) (tt := 49) (r := []) zq_85 zo_85 hc rfl rfl rfl ?_
      refine zv_p (k := 2) (f' := (50, [(4, .int v5), (3, .int v2), (0, .ref p0), (1, .ref p1), (2, .ref p2)], [.int (1 : Int32)])) zq_85 zo_85 (by with_unfolding_all rfl) ?_
      cases hf
      exact zv_rn zq_85 zo_85 rfl rfl
  · refine zv_brF (off := 17) (tt := 39) (r := []) zq_85 zo_85 hc rfl rfl rfl ?_
    refine zv_p (k := 2) (f' := (28, [(4, .int v5), (3, .int v2), (0, .ref p0), (1, .ref p1), (2, .ref p2)], [.int v5, .int v2])) zq_85 zo_85 (by with_unfolding_all rfl) ?_
    replace hf := zf_ite hf
    obtain ⟨hc, hf⟩ | ⟨hc, hf⟩ := hf
    · refine zv_brT (off := 7) (tt := 35) (r := []) zq_85 zo_85 hc rfl rfl rfl ?_
      refine zv_p (k := 2) (f' := (50, [(4, .int v5), (3, .int v2), (0, .ref p0), (1, .ref p1), (2, .ref p2)], [.int (0 : Int32)])) zq_85 zo_85 (by with_unfolding_all rfl) ?_
      cases hf
      exact zv_rn zq_85 zo_85 rfl rfl
    · refine zv_brF (off := 7) (tt := 35) (r := []) zq_85 zo_85 hc rfl rfl rfl ?_
      refine zv_p (k := 2) (f' := (50, [(4, .int v5), (3, .int v2), (0, .ref p0), (1, .ref p1), (2, .ref p2)], [.int (1 : Int32)])) zq_85 zo_85 (by with_unfolding_all rfl) ?_
      cases hf
      exact zv_rn zq_85 zo_85 rfl rfl
/-! ColumnVault$Node.putByCounts (LColumnVault$Node;)V -/
noncomputable def zI_84 : zd_T := [[(0, .aconst_null, 1), (1, .astore_n 2, 1), (2, .aload_n 0, 1), (3, .getfield 21, 3), (6, .astore_n 3, 1), (7, .aload_n 3, 1), (8, .ifnull 22, 3), (11, .aload_n 0, 1), (12, .aload_n 1, 1), (13, .aload_n 3, 1), (14, .invokevirtual 41, 3), (17, .ifCond .ne 13, 3), (20, .aload_n 3, 1), (21, .astore_n 2, 1), (22, .aload_n 3, 1), (23, .getfield 24, 3), (26, .astore_n 3, 1), (27, .goto (-20), 3), (30, .aload_n 2, 1), (31, .ifnonnull 19, 3)], [(34, .aload_n 1, 1), (35, .aload_n 0, 1), (36, .getfield 21, 3), (39, .putfield 24, 3), (42, .aload_n 0, 1), (43, .aload_n 1, 1), (44, .putfield 21, 3), (47, .goto 16, 3), (50, .aload_n 1, 1), (51, .aload_n 2, 1), (52, .getfield 24, 3), (55, .putfield 24, 3), (58, .aload_n 2, 1), (59, .aload_n 1, 1), (60, .putfield 24, 3), (63, .return_, 1)], []]
theorem zo_84 : zd_of 84 = some zI_84 := rfl
set_option maxRecDepth 100000 in
theorem zq_84 : zt_m[84]? = some (⟨"ColumnVault$Node", "putByCounts", "(LColumnVault$Node;)V"⟩, prog_8_method_4_code, 4, none, [], 8, 1, 0, 0, 0, 0) := rfl
set_option maxHeartbeats 1000000 in
def f_Node_putByCounts_30 (p0 : Nat) (p1 : Nat) (p2 : Option Nat) (h : zx_H) : Option (Unit × zx_H) :=
  zf_on p2 (
    zf_b (zf_N 8 5 p0 h) fun v2 =>
    zf_b (zf_put 8 6 p1 (zx_rf v2) h) fun h3 =>
    zf_b (zf_put 8 5 p0 (.ref p1) h3) fun h4 =>
    some ((), h4)
  ) fun q1 =>
    zf_b (zf_N 8 6 q1 h) fun v5 =>
    zf_b (zf_put 8 6 p1 (zx_rf v5) h) fun h6 =>
    zf_b (zf_put 8 6 q1 (.ref p1) h6) fun h7 =>
    some ((), h7)
set_option maxHeartbeats 4000000 in
set_option maxRecDepth 400000 in
theorem t_f_Node_putByCounts_30 {sc : (Nat × (Nat → Int32)) × Bool} {d : Nat} (p0 : Nat) (p1 : Nat) (p2 : Option Nat) (h : zx_H) (r : Unit) (h' : zx_H) (hf : f_Node_putByCounts_30 p0 p1 p2 h = some (r, h')) : zx_T sc (d + 2) 84 (30, [(0, .ref p0), (1, .ref p1), (2, zx_rf p2)], []) h (zf_oV r) h' := by
  unfold f_Node_putByCounts_30 at hf
  refine zv_p (k := 1) (f' := (31, [(0, .ref p0), (1, .ref p1), (2, zx_rf p2)], [zx_rf p2])) zq_84 zo_84 (by cases p2 <;> with_unfolding_all rfl) ?_
  replace hf := zf_elim hf
  obtain ⟨rfl, hf⟩ | ⟨q1, rfl, hf⟩ := hf
  · refine zv_p (k := 1) (f' := (34, [(0, .ref p0), (1, .ref p1), (2, .null)], [])) zq_84 zo_84 (by with_unfolding_all rfl) ?_
    refine zv_p (k := 2) (f' := (36, [(0, .ref p0), (1, .ref p1), (2, .null)], [.ref p0, .ref p1])) zq_84 zo_84 (by with_unfolding_all rfl) ?_
    replace hf := zf_be hf
    obtain ⟨v2, hv, hf⟩ := hf
    refine zv_gf zq_84 zo_84 rfl rfl rfl (zf_Ne hv) ?_
    replace hf := zf_be hf
    obtain ⟨h3, hv, hf⟩ := hf
    refine zv_pf zq_84 zo_84 rfl rfl (by cases v2 <;> rfl) (by cases v2 <;> rfl) hv ?_
    refine zv_p (k := 2) (f' := (44, [(0, .ref p0), (1, .ref p1), (2, .null)], [.ref p1, .ref p0])) zq_84 zo_84 (by with_unfolding_all rfl) ?_
    replace hf := zf_be hf
    obtain ⟨h4, hv, hf⟩ := hf
    refine zv_pf zq_84 zo_84 rfl rfl rfl rfl hv ?_
    refine zv_p (k := 1) (f' := (63, [(0, .ref p0), (1, .ref p1), (2, .null)], [])) zq_84 zo_84 (by with_unfolding_all rfl) ?_
    cases hf
    exact zv_r zq_84 zo_84 rfl rfl rfl rfl rfl
  · refine zv_p (k := 1) (f' := (50, [(0, .ref p0), (1, .ref p1), (2, .ref q1)], [])) zq_84 zo_84 (by with_unfolding_all rfl) ?_
    refine zv_p (k := 2) (f' := (52, [(0, .ref p0), (1, .ref p1), (2, .ref q1)], [.ref q1, .ref p1])) zq_84 zo_84 (by with_unfolding_all rfl) ?_
    replace hf := zf_be hf
    obtain ⟨v5, hv, hf⟩ := hf
    refine zv_gf zq_84 zo_84 rfl rfl rfl (zf_Ne hv) ?_
    replace hf := zf_be hf
    obtain ⟨h6, hv, hf⟩ := hf
    refine zv_pf zq_84 zo_84 rfl rfl (by cases v5 <;> rfl) (by cases v5 <;> rfl) hv ?_
    refine zv_p (k := 2) (f' := (60, [(0, .ref p0), (1, .ref p1), (2, .ref q1)], [.ref p1, .ref q1])) zq_84 zo_84 (by with_unfolding_all rfl) ?_
    replace hf := zf_be hf
    obtain ⟨h7, hv, hf⟩ := hf
    refine zv_pf zq_84 zo_84 rfl rfl rfl rfl hv ?_
    cases hf
    exact zv_r zq_84 zo_84 rfl rfl rfl rfl rfl
set_option maxHeartbeats 1000000 in
def f_Node_putByCounts_7 : Nat → Nat → Nat → Option Nat → Option Nat → zx_H → Option (Unit × zx_H)
  | 0, _, _, _, _, _ => none
  | n + 1, p0, p1, p2, p3, h =>
    zf_on p3 (
      f_Node_putByCounts_30 p0 p1 p2 h
    ) fun q1 =>
      zf_b (zf_is 8 p0 h) fun _ =>
      zf_b2 (f_Node_isFirst p0 p1 q1 h) fun v2 h3 =>
      if ¬ v2 = 0 then
        f_Node_putByCounts_30 p0 p1 p2 h3
      else
        zf_b (zf_N 8 6 q1 h3) fun v4 =>
        (f_Node_putByCounts_7 n) p0 p1 (some q1) v4 h3
set_option maxHeartbeats 4000000 in
set_option maxRecDepth 400000 in
theorem t_f_Node_putByCounts_7 {sc : (Nat × (Nat → Int32)) × Bool} {d : Nat} : ∀ (n : Nat) (p0 : Nat) (p1 : Nat) (p2 : Option Nat) (p3 : Option Nat) (h : zx_H) (r : Unit) (h' : zx_H), f_Node_putByCounts_7 n p0 p1 p2 p3 h = some (r, h') → zx_T sc (d + 2) 84 (7, [(0, .ref p0), (1, .ref p1), (2, zx_rf p2), (3, zx_rf p3)], []) h (zf_oV r) h' := by
  intro n
  induction n with
  | zero => intro p0 p1 p2 p3 h r h' hf; cases hf
  | succ n ih =>
    intro p0 p1 p2 p3 h r h' hf
    unfold f_Node_putByCounts_7 at hf
    refine zv_p (k := 1) (f' := (8, [(0, .ref p0), (1, .ref p1), (2, zx_rf p2), (3, zx_rf p3)], [zx_rf p3])) zq_84 zo_84 (by cases p2 <;> cases p3 <;> with_unfolding_all rfl) ?_
    replace hf := zf_elim hf
    obtain ⟨rfl, hf⟩ | ⟨q1, rfl, hf⟩ := hf
    · refine zv_p (k := 1) (f' := (30, [(0, .ref p0), (1, .ref p1), (2, zx_rf p2), (3, .null)], [])) zq_84 zo_84 (by with_unfolding_all rfl) ?_
      refine zv_pick (lv' := [(0, .ref p0), (1, .ref p1), (2, zx_rf p2)]) [0, 1, 2] (by cases p2 <;> rfl) rfl ?_
      exact t_f_Node_putByCounts_30 _ _ _ _ _ _ hf
    · refine zv_p (k := 1) (f' := (11, [(0, .ref p0), (1, .ref p1), (2, zx_rf p2), (3, .ref q1)], [])) zq_84 zo_84 (by with_unfolding_all rfl) ?_
      refine zv_p (k := 3) (f' := (14, [(0, .ref p0), (1, .ref p1), (2, zx_rf p2), (3, .ref q1)], [.ref q1, .ref p1, .ref p0])) zq_84 zo_84 (by cases p2 <;> with_unfolding_all rfl) ?_
      replace hf := zf_be hf
      obtain ⟨_, ho, hf⟩ := hf
      replace hf := zf_b2e hf
      obtain ⟨v2, h3, hv, hf⟩ := hf
      refine zv_c zq_84 zo_84 rfl rfl rfl rfl rfl (zv_cv rfl rfl rfl (zf_ise ho) rfl) (t_f_Node_isFirst _ _ _ _ _ _ hv) ?_
      replace hf := zf_ite hf
      obtain ⟨hc, hf⟩ | ⟨hc, hf⟩ := hf
      · refine zv_brT (off := 13) (tt := 30) (r := []) zq_84 zo_84 hc rfl rfl rfl ?_
        refine zv_pick (lv' := [(0, .ref p0), (1, .ref p1), (2, zx_rf p2)]) [0, 1, 2] (by cases p2 <;> rfl) rfl ?_
        exact t_f_Node_putByCounts_30 _ _ _ _ _ _ hf
      · refine zv_brF (off := 13) (tt := 30) (r := []) zq_84 zo_84 hc rfl rfl rfl ?_
        refine zv_p (k := 3) (f' := (23, [(2, .ref q1), (0, .ref p0), (1, .ref p1), (3, .ref q1)], [.ref q1])) zq_84 zo_84 (by cases p2 <;> with_unfolding_all rfl) ?_
        replace hf := zf_be hf
        obtain ⟨v4, hv, hf⟩ := hf
        refine zv_gf zq_84 zo_84 rfl rfl rfl (zf_Ne hv) ?_
        refine zv_p (k := 2) (f' := (7, [(3, zx_rf v4), (2, .ref q1), (0, .ref p0), (1, .ref p1)], [])) zq_84 zo_84 (by cases v4 <;> with_unfolding_all rfl) ?_
        refine zv_pick (lv' := [(0, .ref p0), (1, .ref p1), (2, zx_rf (some q1)), (3, zx_rf v4)]) [0, 1, 2, 3] (by cases v4 <;> rfl) rfl ?_
        exact ih _ _ _ _ _ _ _ hf
set_option maxHeartbeats 1000000 in
def f_Node_putByCounts (p0 : Nat) (p1 : Nat) (h : zx_H) : Option (Unit × zx_H) :=
  zf_b (zf_N 8 5 p0 h) fun v1 =>
  f_Node_putByCounts_7 zF p0 p1 none v1 h
set_option maxHeartbeats 4000000 in
set_option maxRecDepth 400000 in
theorem t_f_Node_putByCounts {sc : (Nat × (Nat → Int32)) × Bool} {d : Nat} (p0 : Nat) (p1 : Nat) (h : zx_H) (r : Unit) (h' : zx_H) (hf : f_Node_putByCounts p0 p1 h = some (r, h')) : zx_T sc (d + 2) 84 (0, [(0, .ref p0), (1, .ref p1)], []) h (zf_oV r) h' := by
  unfold f_Node_putByCounts at hf
  refine zv_p (k := 3) (f' := (3, [(2, .null), (0, .ref p0), (1, .ref p1)], [.ref p0])) zq_84 zo_84 (by with_unfolding_all rfl) ?_
  replace hf := zf_be hf
  obtain ⟨v1, hv, hf⟩ := hf
  refine zv_gf zq_84 zo_84 rfl rfl rfl (zf_Ne hv) ?_
  refine zv_p (k := 1) (f' := (7, [(3, zx_rf v1), (2, .null), (0, .ref p0), (1, .ref p1)], [])) zq_84 zo_84 (by cases v1 <;> with_unfolding_all rfl) ?_
  refine zv_pick (lv' := [(0, .ref p0), (1, .ref p1), (2, zx_rf none), (3, zx_rf v1)]) [0, 1, 2, 3] (by cases v1 <;> rfl) rfl ?_
  exact t_f_Node_putByCounts_7 zF _ _ _ _ _ _ _ hf
/-! ColumnVault$Node.put (LColumnVault$Node;)V -/
noncomputable def zI_83 : zd_T := [[(0, .aload_n 0, 1), (1, .aload_n 0, 1), (2, .getfield 27, 3), (5, .iconst 1, 1), (6, .if_icmp .ne 15, 3), (9, .aload_n 0, 1), (10, .getfield 31, 3), (13, .aload_n 1, 1), (14, .getfield 31, 3), (17, .land, 1), (18, .goto 12, 3), (21, .aload_n 0, 1), (22, .getfield 31, 3), (25, .aload_n 1, 1), (26, .getfield 31, 3), (29, .lor, 1), (30, .putfield 31, 3)], [(33, .aload_n 0, 1), (34, .getfield 15, 3), (37, .ifnonnull 11, 3), (40, .aload_n 0, 1), (41, .aload_n 1, 1), (42, .putfield 9, 3), (45, .goto 11, 3), (48, .aload_n 0, 1), (49, .getfield 15, 3), (52, .aload_n 1, 1), (53, .putfield 18, 3), (56, .aload_n 0, 1), (57, .aload_n 1, 1), (58, .putfield 15, 3), (61, .aload_n 0, 1), (62, .aload_n 1, 1), (63, .invokevirtual 37, 3)], [(66, .return_, 1)]]
theorem zo_83 : zd_of 83 = some zI_83 := rfl
set_option maxRecDepth 100000 in
theorem zq_83 : zt_m[83]? = some (⟨"ColumnVault$Node", "put", "(LColumnVault$Node;)V"⟩, prog_8_method_3_code, 2, none, [], 8, 1, 0, 0, 0, 0) := rfl
set_option maxHeartbeats 1000000 in
def f_Node_put_30 (p0 : Nat) (p1 : Nat) (p2 : Nat) (p3 : Int64) (h : zx_H) : Option (Unit × zx_H) :=
  zf_b (zf_put 8 1 p2 (.long p3) h) fun h1 =>
  zf_b (zf_N 8 3 p0 h1) fun v2 =>
  zf_on v2 (
    zf_b (zf_put 8 2 p0 (.ref p1) h1) fun h4 =>
    zf_b (zf_put 8 3 p0 (.ref p1) h4) fun h5 =>
    zf_b (zf_is 8 p0 h5) fun _ =>
    zf_b2 (f_Node_putByCounts p0 p1 h5) fun _ h7 =>
    some ((), h7)
  ) fun q3 =>
    zf_b (zf_N 8 3 p0 h1) fun v8 =>
    zf_on v8 none fun q9 =>
    zf_b (zf_put 8 4 q9 (.ref p1) h1) fun h10 =>
    zf_b (zf_put 8 3 p0 (.ref p1) h10) fun h11 =>
    zf_b (zf_is 8 p0 h11) fun _ =>
    zf_b2 (f_Node_putByCounts p0 p1 h11) fun _ h13 =>
    some ((), h13)
set_option maxHeartbeats 4000000 in
set_option maxRecDepth 400000 in
theorem t_f_Node_put_30 {sc : (Nat × (Nat → Int32)) × Bool} {d : Nat} (p0 : Nat) (p1 : Nat) (p2 : Nat) (p3 : Int64) (h : zx_H) (r : Unit) (h' : zx_H) (hf : f_Node_put_30 p0 p1 p2 p3 h = some (r, h')) : zx_T sc (d + 3) 83 (30, [(0, .ref p0), (1, .ref p1)], [.long p3, .ref p2]) h (zf_oV r) h' := by
  unfold f_Node_put_30 at hf
  replace hf := zf_be hf
  obtain ⟨h1, hv, hf⟩ := hf
  refine zv_pf zq_83 zo_83 rfl rfl rfl rfl hv ?_
  refine zv_p (k := 1) (f' := (34, [(0, .ref p0), (1, .ref p1)], [.ref p0])) zq_83 zo_83 (by with_unfolding_all rfl) ?_
  replace hf := zf_be hf
  obtain ⟨v2, hv, hf⟩ := hf
  refine zv_gf zq_83 zo_83 rfl rfl rfl (zf_Ne hv) ?_
  replace hf := zf_elim hf
  obtain ⟨rfl, hf⟩ | ⟨q3, rfl, hf⟩ := hf
  · refine zv_p (k := 1) (f' := (40, [(0, .ref p0), (1, .ref p1)], [])) zq_83 zo_83 (by with_unfolding_all rfl) ?_
    refine zv_p (k := 2) (f' := (42, [(0, .ref p0), (1, .ref p1)], [.ref p1, .ref p0])) zq_83 zo_83 (by with_unfolding_all rfl) ?_
    replace hf := zf_be hf
    obtain ⟨h4, hv, hf⟩ := hf
    refine zv_pf zq_83 zo_83 rfl rfl rfl rfl hv ?_
    refine zv_p (k := 3) (f' := (58, [(0, .ref p0), (1, .ref p1)], [.ref p1, .ref p0])) zq_83 zo_83 (by with_unfolding_all rfl) ?_
    replace hf := zf_be hf
    obtain ⟨h5, hv, hf⟩ := hf
    refine zv_pf zq_83 zo_83 rfl rfl rfl rfl hv ?_
    refine zv_p (k := 2) (f' := (63, [(0, .ref p0), (1, .ref p1)], [.ref p1, .ref p0])) zq_83 zo_83 (by with_unfolding_all rfl) ?_
    replace hf := zf_be hf
    obtain ⟨_, ho, hf⟩ := hf
    replace hf := zf_b2e hf
    obtain ⟨v6, h7, hv, hf⟩ := hf
    refine zv_c zq_83 zo_83 rfl rfl rfl rfl rfl (zv_cv rfl rfl rfl (zf_ise ho) rfl) (t_f_Node_putByCounts _ _ _ _ _ hv) ?_
    cases hf
    exact zv_r zq_83 zo_83 rfl rfl rfl rfl rfl
  · refine zv_p (k := 1) (f' := (48, [(0, .ref p0), (1, .ref p1)], [])) zq_83 zo_83 (by with_unfolding_all rfl) ?_
    refine zv_p (k := 1) (f' := (49, [(0, .ref p0), (1, .ref p1)], [.ref p0])) zq_83 zo_83 (by with_unfolding_all rfl) ?_
    replace hf := zf_be hf
    obtain ⟨v8, hv, hf⟩ := hf
    refine zv_gf zq_83 zo_83 rfl rfl rfl (zf_Ne hv) ?_
    refine zv_p (k := 1) (f' := (53, [(0, .ref p0), (1, .ref p1)], [.ref p1, zx_rf v8])) zq_83 zo_83 (by cases v8 <;> with_unfolding_all rfl) ?_
    replace hf := zf_elim hf
    obtain ⟨-, hf⟩ | ⟨q9, rfl, hf⟩ := hf
    · cases hf
    replace hf := zf_be hf
    obtain ⟨h10, hv, hf⟩ := hf
    refine zv_pf zq_83 zo_83 rfl rfl rfl rfl hv ?_
    refine zv_p (k := 2) (f' := (58, [(0, .ref p0), (1, .ref p1)], [.ref p1, .ref p0])) zq_83 zo_83 (by with_unfolding_all rfl) ?_
    replace hf := zf_be hf
    obtain ⟨h11, hv, hf⟩ := hf
    refine zv_pf zq_83 zo_83 rfl rfl rfl rfl hv ?_
    refine zv_p (k := 2) (f' := (63, [(0, .ref p0), (1, .ref p1)], [.ref p1, .ref p0])) zq_83 zo_83 (by with_unfolding_all rfl) ?_
    replace hf := zf_be hf
    obtain ⟨_, ho, hf⟩ := hf
    replace hf := zf_b2e hf
    obtain ⟨v12, h13, hv, hf⟩ := hf
    refine zv_c zq_83 zo_83 rfl rfl rfl rfl rfl (zv_cv rfl rfl rfl (zf_ise ho) rfl) (t_f_Node_putByCounts _ _ _ _ _ hv) ?_
    cases hf
    exact zv_r zq_83 zo_83 rfl rfl rfl rfl rfl
set_option maxHeartbeats 1000000 in
def f_Node_put (p0 : Nat) (p1 : Nat) (h : zx_H) : Option (Unit × zx_H) :=
  zf_b (zf_I 8 0 p0 h) fun v1 =>
  if ¬ v1 = (1 : Int32) then
    zf_b (zf_J 8 1 p0 h) fun v2 =>
    zf_b (zf_J 8 1 p1 h) fun v3 =>
    f_Node_put_30 p0 p1 p0 (v2 ||| v3) h
  else
    zf_b (zf_J 8 1 p0 h) fun v4 =>
    zf_b (zf_J 8 1 p1 h) fun v5 =>
    f_Node_put_30 p0 p1 p0 (v4 &&& v5) h
set_option maxHeartbeats 4000000 in
set_option maxRecDepth 400000 in
theorem t_f_Node_put {sc : (Nat × (Nat → Int32)) × Bool} {d : Nat} (p0 : Nat) (p1 : Nat) (h : zx_H) (r : Unit) (h' : zx_H) (hf : f_Node_put p0 p1 h = some (r, h')) : zx_T sc (d + 3) 83 (0, [(0, .ref p0), (1, .ref p1)], []) h (zf_oV r) h' := by
  unfold f_Node_put at hf
  refine zv_p (k := 2) (f' := (2, [(0, .ref p0), (1, .ref p1)], [.ref p0, .ref p0])) zq_83 zo_83 (by with_unfolding_all rfl) ?_
  replace hf := zf_be hf
  obtain ⟨v1, hv, hf⟩ := hf
  refine zv_gf zq_83 zo_83 rfl rfl rfl (zf_Ie hv) ?_
  refine zv_p (k := 1) (f' := (6, [(0, .ref p0), (1, .ref p1)], [.int (1 : Int32), .int v1, .ref p0])) zq_83 zo_83 (by with_unfolding_all rfl) ?_
  replace hf := zf_ite hf
  obtain ⟨hc, hf⟩ | ⟨hc, hf⟩ := hf
  · refine zv_brT (off := 15) (tt := 21) (r := [.ref p0]) zq_83 zo_83 hc rfl rfl rfl ?_
    refine zv_p (k := 1) (f' := (22, [(0, .ref p0), (1, .ref p1)], [.ref p0, .ref p0])) zq_83 zo_83 (by with_unfolding_all rfl) ?_
    replace hf := zf_be hf
    obtain ⟨v2, hv, hf⟩ := hf
    refine zv_gf zq_83 zo_83 rfl rfl rfl (zf_Je hv) ?_
    refine zv_p (k := 1) (f' := (26, [(0, .ref p0), (1, .ref p1)], [.ref p1, .long v2, .ref p0])) zq_83 zo_83 (by with_unfolding_all rfl) ?_
    replace hf := zf_be hf
    obtain ⟨v3, hv, hf⟩ := hf
    refine zv_gf zq_83 zo_83 rfl rfl rfl (zf_Je hv) ?_
    refine zv_p (k := 1) (f' := (30, [(0, .ref p0), (1, .ref p1)], [.long (v2 ||| v3), .ref p0])) zq_83 zo_83 (by with_unfolding_all rfl) ?_
    refine zv_pick (lv' := [(0, .ref p0), (1, .ref p1)]) [0, 1] rfl rfl ?_
    exact t_f_Node_put_30 _ _ _ _ _ _ _ hf
  · refine zv_brF (off := 15) (tt := 21) (r := [.ref p0]) zq_83 zo_83 hc rfl rfl rfl ?_
    refine zv_p (k := 1) (f' := (10, [(0, .ref p0), (1, .ref p1)], [.ref p0, .ref p0])) zq_83 zo_83 (by with_unfolding_all rfl) ?_
    replace hf := zf_be hf
    obtain ⟨v4, hv, hf⟩ := hf
    refine zv_gf zq_83 zo_83 rfl rfl rfl (zf_Je hv) ?_
    refine zv_p (k := 1) (f' := (14, [(0, .ref p0), (1, .ref p1)], [.ref p1, .long v4, .ref p0])) zq_83 zo_83 (by with_unfolding_all rfl) ?_
    replace hf := zf_be hf
    obtain ⟨v5, hv, hf⟩ := hf
    refine zv_gf zq_83 zo_83 rfl rfl rfl (zf_Je hv) ?_
    refine zv_p (k := 2) (f' := (30, [(0, .ref p0), (1, .ref p1)], [.long (v4 &&& v5), .ref p0])) zq_83 zo_83 (by with_unfolding_all rfl) ?_
    refine zv_pick (lv' := [(0, .ref p0), (1, .ref p1)]) [0, 1] rfl rfl ?_
    exact t_f_Node_put_30 _ _ _ _ _ _ _ hf
/-! ColumnVault$FilterReader.readBrackets (I)LColumnVault$Node; -/
noncomputable def zI_74 : zd_T := [[(0, .iload_n 1, 1), (1, .bipush 6, 2), (3, .if_icmp .lt 20, 3), (6, .aload_n 0, 1), (7, .iconst 2, 1), (8, .aload_n 0, 1), (9, .getfield 28, 3), (12, .aload_n 0, 1), (13, .getfield 19, 3), (16, .invokevirtual 50, 3), (19, .invokevirtual 53, 3), (22, .areturn, 1), (23, .aload_n 0, 1), (24, .dup, 1), (25, .getfield 19, 3), (28, .iconst 1, 1), (29, .iadd, 1), (30, .putfield 19, 3)], [(33, .aload_n 0, 1), (34, .iload_n 1, 1), (35, .iconst 1, 1), (36, .iadd, 1), (37, .invokevirtual 42, 3), (40, .astore_n 2, 1), (41, .aload_n 2, 1), (42, .ifnull 29, 3), (45, .aload_n 0, 1), (46, .bipush 41, 2), (48, .invokevirtual 69, 3), (51, .ifCond .ne 20, 3), (54, .aload_n 0, 1), (55, .iconst 1, 1), (56, .aload_n 0, 1), (57, .getfield 28, 3), (60, .aload_n 0, 1), (61, .getfield 19, 3)], [(64, .invokevirtual 50, 3), (67, .invokevirtual 53, 3), (70, .areturn, 1), (71, .aload_n 2, 1), (72, .areturn, 1)]]
theorem zo_74 : zd_of 74 = some zI_74 := rfl
set_option maxRecDepth 100000 in
theorem zq_74 : zt_m[74]? = some (⟨"ColumnVault$FilterReader", "readBrackets", "(I)LColumnVault$Node;"⟩, prog_3_method_8_code, 3, some (.object "ColumnVault$Node"), [], 3, 1, 0, 0, 0, 0) := rfl
