set_option maxHeartbeats 1000000 in
def f_FilterReader_readBrackets (r_65 : Nat → Int32 → zx_H → Option (Option Nat × zx_H)) (p0 : Nat) (p1 : Int32) (h : zx_H) : Option (Option Nat × zx_H) :=
  if p1 < (6 : Int32) then
    zf_b (zf_I 3 4 p0 h) fun v1 =>
    zf_b (zf_put 3 4 p0 (.int (v1 + (1 : Int32))) h) fun h2 =>
    zf_b (zf_is 3 p0 h2) fun _ =>
    zf_b2 (r_65 p0 (p1 + (1 : Int32)) h2) fun v3 h4 =>
    zf_on v3 (
      some (none, h4)
    ) fun q5 =>
      zf_b (zf_is 3 p0 h4) fun _ =>
      zf_b2 (f_FilterReader_takes p0 (41 : Int32) h4) fun v6 h7 =>
      if ¬ v6 = 0 then
        some ((some q5), h7)
      else
        zf_b (zf_A 3 0 p0 h7) fun v8 =>
        zf_b (zf_I 3 4 p0 h7) fun v9 =>
        zf_b (zf_is 11 v8 h7) fun _ =>
        zf_b2 (f_Tokens_placeAt v8 v9 h7) fun v10 h11 =>
        zf_b (zf_is 3 p0 h11) fun _ =>
        zf_b2 (f_FilterReader_fail p0 (1 : Int32) v10 h11) fun v12 h13 =>
        some (v12, h13)
  else
    zf_b (zf_A 3 0 p0 h) fun v14 =>
    zf_b (zf_I 3 4 p0 h) fun v15 =>
    zf_b (zf_is 11 v14 h) fun _ =>
    zf_b2 (f_Tokens_placeAt v14 v15 h) fun v16 h17 =>
    zf_b (zf_is 3 p0 h17) fun _ =>
    zf_b2 (f_FilterReader_fail p0 (2 : Int32) v16 h17) fun v18 h19 =>
    some (v18, h19)
set_option maxHeartbeats 4000000 in
set_option maxRecDepth 400000 in
theorem t_f_FilterReader_readBrackets {sc : (Nat × (Nat → Int32)) × Bool} {d : Nat} {r_65 : Nat → Int32 → zx_H → Option (Option Nat × zx_H)} (hr : ∀ (a0 : Nat) (a1 : Int32) (h : zx_H) (r : Option Nat) (h' : zx_H), r_65 a0 a1 h = some (r, h') → zx_T sc d 65 (0, [(0, .ref a0), (1, .int a1)], []) h (zf_oN r) h') (p0 : Nat) (p1 : Int32) (h : zx_H) (r : Option Nat) (h' : zx_H) (hf : f_FilterReader_readBrackets r_65 p0 p1 h = some (r, h')) : zx_T sc (d + 2) 74 (0, [(0, .ref p0), (1, .int p1)], []) h (zf_oN r) h' := by
  unfold f_FilterReader_readBrackets at hf
  refine zv_p (k := 2) (f' := (3, [(0, .ref p0), (1, .int p1)], [.int (6 : Int32), .int p1])) zq_74 zo_74 (by with_unfolding_all rfl) ?_
  replace hf := zf_ite hf
  obtain ⟨hc, hf⟩ | ⟨hc, hf⟩ := hf
  · refine zv_brT (off := 20) (tt := 23) (r := []) zq_74 zo_74 hc rfl rfl rfl ?_
    refine zv_p (k := 2) (f' := (25, [(0, .ref p0), (1, .int p1)], [.ref p0, .ref p0])) zq_74 zo_74 (by with_unfolding_all rfl) ?_
    replace hf := zf_be hf
    obtain ⟨v1, hv, hf⟩ := hf
    refine zv_gf zq_74 zo_74 rfl rfl rfl (zf_Ie hv) ?_
    refine zv_p (k := 2) (f' := (30, [(0, .ref p0), (1, .int p1)], [.int (v1 + (1 : Int32)), .ref p0])) zq_74 zo_74 (by with_unfolding_all rfl) ?_
    replace hf := zf_be hf
    obtain ⟨h2, hv, hf⟩ := hf
    refine zv_pf zq_74 zo_74 rfl rfl rfl rfl hv ?_
    refine zv_p (k := 4) (f' := (37, [(0, .ref p0), (1, .int p1)], [.int (p1 + (1 : Int32)), .ref p0])) zq_74 zo_74 (by with_unfolding_all rfl) ?_
    replace hf := zf_be hf
    obtain ⟨_, ho, hf⟩ := hf
    replace hf := zf_b2e hf
    obtain ⟨v3, h4, hv, hf⟩ := hf
    refine zv_c zq_74 zo_74 rfl rfl rfl rfl rfl (zv_cv rfl rfl rfl (zf_ise ho) rfl) (zv_dp 1 <| hr _ _ _ _ _ hv) ?_
    refine zv_p (k := 2) (f' := (42, [(2, zx_rf v3), (0, .ref p0), (1, .int p1)], [zx_rf v3])) zq_74 zo_74 (by cases v3 <;> with_unfolding_all rfl) ?_
    replace hf := zf_elim hf
    obtain ⟨rfl, hf⟩ | ⟨q5, rfl, hf⟩ := hf
    · refine zv_p (k := 1) (f' := (71, [(2, .null), (0, .ref p0), (1, .int p1)], [])) zq_74 zo_74 (by with_unfolding_all rfl) ?_
      refine zv_p (k := 1) (f' := (72, [(2, .null), (0, .ref p0), (1, .int p1)], [.null])) zq_74 zo_74 (by with_unfolding_all rfl) ?_
      cases hf
      exact zv_r zq_74 zo_74 rfl rfl rfl rfl rfl
    · refine zv_p (k := 1) (f' := (45, [(2, .ref q5), (0, .ref p0), (1, .int p1)], [])) zq_74 zo_74 (by with_unfolding_all rfl) ?_
      refine zv_p (k := 2) (f' := (48, [(2, .ref q5), (0, .ref p0), (1, .int p1)], [.int (41 : Int32), .ref p0])) zq_74 zo_74 (by with_unfolding_all rfl) ?_
      replace hf := zf_be hf
      obtain ⟨_, ho, hf⟩ := hf
      replace hf := zf_b2e hf
      obtain ⟨v6, h7, hv, hf⟩ := hf
      refine zv_c zq_74 zo_74 rfl rfl rfl rfl rfl (zv_cv rfl rfl rfl (zf_ise ho) rfl) (t_f_FilterReader_takes _ _ _ _ _ hv) ?_
      replace hf := zf_ite hf
      obtain ⟨hc, hf⟩ | ⟨hc, hf⟩ := hf
      · refine zv_brT (off := 20) (tt := 71) (r := []) zq_74 zo_74 hc rfl rfl rfl ?_
        refine zv_p (k := 1) (f' := (72, [(2, .ref q5), (0, .ref p0), (1, .int p1)], [.ref q5])) zq_74 zo_74 (by with_unfolding_all rfl) ?_
        cases hf
        exact zv_r zq_74 zo_74 rfl rfl rfl rfl rfl
      · refine zv_brF (off := 20) (tt := 71) (r := []) zq_74 zo_74 hc rfl rfl rfl ?_
        refine zv_p (k := 3) (f' := (57, [(2, .ref q5), (0, .ref p0), (1, .int p1)], [.ref p0, .int (1 : Int32), .ref p0])) zq_74 zo_74 (by with_unfolding_all rfl) ?_
        replace hf := zf_be hf
        obtain ⟨v8, hv, hf⟩ := hf
        refine zv_gf zq_74 zo_74 rfl rfl rfl (zf_Ae hv) ?_
        refine zv_p (k := 1) (f' := (61, [(2, .ref q5), (0, .ref p0), (1, .int p1)], [.ref p0, .ref v8, .int (1 : Int32), .ref p0])) zq_74 zo_74 (by with_unfolding_all rfl) ?_
        replace hf := zf_be hf
        obtain ⟨v9, hv, hf⟩ := hf
        refine zv_gf zq_74 zo_74 rfl rfl rfl (zf_Ie hv) ?_
        replace hf := zf_be hf
        obtain ⟨_, ho, hf⟩ := hf
        replace hf := zf_b2e hf
        obtain ⟨v10, h11, hv, hf⟩ := hf
        refine zv_c zq_74 zo_74 rfl rfl rfl rfl rfl (zv_cv rfl rfl rfl (zf_ise ho) rfl) (t_f_Tokens_placeAt _ _ _ _ _ hv) ?_
        replace hf := zf_be hf
        obtain ⟨_, ho, hf⟩ := hf
        replace hf := zf_b2e hf
        obtain ⟨v12, h13, hv, hf⟩ := hf
        refine zv_c zq_74 zo_74 rfl rfl rfl rfl rfl (zv_cv rfl rfl rfl (zf_ise ho) rfl) (t_f_FilterReader_fail _ _ _ _ _ _ hv) ?_
        cases hf
        exact zv_r zq_74 zo_74 rfl (by cases r <;> rfl) (by cases r <;> rfl) (by cases r <;> rfl) (by cases r <;> rfl)
  · refine zv_brF (off := 20) (tt := 23) (r := []) zq_74 zo_74 hc rfl rfl rfl ?_
    refine zv_p (k := 3) (f' := (9, [(0, .ref p0), (1, .int p1)], [.ref p0, .int (2 : Int32), .ref p0])) zq_74 zo_74 (by with_unfolding_all rfl) ?_
    replace hf := zf_be hf
    obtain ⟨v14, hv, hf⟩ := hf
    refine zv_gf zq_74 zo_74 rfl rfl rfl (zf_Ae hv) ?_
    refine zv_p (k := 1) (f' := (13, [(0, .ref p0), (1, .int p1)], [.ref p0, .ref v14, .int (2 : Int32), .ref p0])) zq_74 zo_74 (by with_unfolding_all rfl) ?_
    replace hf := zf_be hf
    obtain ⟨v15, hv, hf⟩ := hf
    refine zv_gf zq_74 zo_74 rfl rfl rfl (zf_Ie hv) ?_
    replace hf := zf_be hf
    obtain ⟨_, ho, hf⟩ := hf
    replace hf := zf_b2e hf
    obtain ⟨v16, h17, hv, hf⟩ := hf
    refine zv_c zq_74 zo_74 rfl rfl rfl rfl rfl (zv_cv rfl rfl rfl (zf_ise ho) rfl) (t_f_Tokens_placeAt _ _ _ _ _ hv) ?_
    replace hf := zf_be hf
    obtain ⟨_, ho, hf⟩ := hf
    replace hf := zf_b2e hf
    obtain ⟨v18, h19, hv, hf⟩ := hf
    refine zv_c zq_74 zo_74 rfl rfl rfl rfl rfl (zv_cv rfl rfl rfl (zf_ise ho) rfl) (t_f_FilterReader_fail _ _ _ _ _ _ hv) ?_
    cases hf
    exact zv_r zq_74 zo_74 rfl (by cases r <;> rfl) (by cases r <;> rfl) (by cases r <;> rfl) (by cases r <;> rfl)
/-! ColumnVault$FilterReader.readPiece (I)LColumnVault$Node; -/
noncomputable def zI_69 : zd_T := [[(0, .iconst 0, 1), (1, .istore_n 2, 1), (2, .iload_n 2, 1), (3, .iconst 3, 1), (4, .if_icmp .ge 18, 3), (7, .aload_n 0, 1), (8, .bipush 33, 2), (10, .invokevirtual 69, 3), (13, .ifCond .eq 9, 3), (16, .iinc 2 1, 3), (19, .goto (-17), 3), (22, .aload_n 0, 1), (23, .getfield 28, 3), (26, .aload_n 0, 1), (27, .getfield 19, 3), (30, .invokevirtual 46, 3)], [(33, .lookupswitch 69 #[(33, 35), (35, 61), (40, 52)], 35)], [(68, .aload_n 0, 1), (69, .iconst 2, 1), (70, .aload_n 0, 1), (71, .getfield 28, 3), (74, .aload_n 0, 1), (75, .getfield 19, 3), (78, .invokevirtual 50, 3), (81, .invokevirtual 53, 3), (84, .areturn, 1), (85, .aload_n 0, 1), (86, .iload_n 1, 1), (87, .invokevirtual 82, 3), (90, .astore_n 3, 1), (91, .goto 28, 3), (94, .aload_n 0, 1), (95, .invokevirtual 85, 3)], [(98, .astore_n 3, 1), (99, .goto 20, 3), (102, .aload_n 0, 1), (103, .iconst 1, 1), (104, .aload_n 0, 1), (105, .getfield 28, 3), (108, .aload_n 0, 1), (109, .getfield 19, 3), (112, .invokevirtual 50, 3), (115, .invokevirtual 53, 3), (118, .areturn, 1), (119, .aload_n 3, 1), (120, .ifnull 21, 3), (123, .iload_n 2, 1), (124, .iconst 2, 1), (125, .irem, 1), (126, .iconst 1, 1), (127, .if_icmp .ne 14, 3)], [(130, .aload_n 3, 1), (131, .aload_n 0, 1), (132, .getfield 32, 3), (135, .invokevirtual 73, 3), (138, .invokevirtual 89, 3), (141, .aload_n 3, 1), (142, .areturn, 1)]]
theorem zo_69 : zd_of 69 = some zI_69 := rfl
set_option maxRecDepth 100000 in
theorem zq_69 : zt_m[69]? = some (⟨"ColumnVault$FilterReader", "readPiece", "(I)LColumnVault$Node;"⟩, prog_3_method_7_code, 4, some (.object "ColumnVault$Node"), [], 3, 1, 0, 0, 0, 0) := rfl
set_option maxHeartbeats 1000000 in
def f_FilterReader_readPiece_119 (r_65 : Nat → Int32 → zx_H → Option (Option Nat × zx_H)) (p0 : Nat) (p1 : Int32) (p2 : Option Nat) (h : zx_H) : Option (Option Nat × zx_H) :=
  zf_on p2 (
    some (none, h)
  ) fun q1 =>
    if ¬ (p1 - p1 / (2 : Int32) * (2 : Int32)) = (1 : Int32) then
      some ((some q1), h)
    else
      zf_b (zf_A 3 1 p0 h) fun v2 =>
      zf_b (zf_is 10 v2 h) fun _ =>
      zf_b2 (f_Sheet_allRows v2 h) fun v3 h4 =>
      zf_b (zf_is 8 q1 h4) fun _ =>
      zf_b2 (f_Node_turn q1 v3 h4) fun _ h6 =>
      some ((some q1), h6)
set_option maxHeartbeats 4000000 in
set_option maxRecDepth 400000 in
theorem t_f_FilterReader_readPiece_119 {sc : (Nat × (Nat → Int32)) × Bool} {d : Nat} {r_65 : Nat → Int32 → zx_H → Option (Option Nat × zx_H)} (hr : ∀ (a0 : Nat) (a1 : Int32) (h : zx_H) (r : Option Nat) (h' : zx_H), r_65 a0 a1 h = some (r, h') → zx_T sc d 65 (0, [(0, .ref a0), (1, .int a1)], []) h (zf_oN r) h') (p0 : Nat) (p1 : Int32) (p2 : Option Nat) (h : zx_H) (r : Option Nat) (h' : zx_H) (hf : f_FilterReader_readPiece_119 r_65 p0 p1 p2 h = some (r, h')) : zx_T sc (d + 4) 69 (119, [(0, .ref p0), (2, .int p1), (3, zx_rf p2)], []) h (zf_oN r) h' := by
  unfold f_FilterReader_readPiece_119 at hf
  refine zv_p (k := 1) (f' := (120, [(0, .ref p0), (2, .int p1), (3, zx_rf p2)], [zx_rf p2])) zq_69 zo_69 (by cases p2 <;> with_unfolding_all rfl) ?_
  replace hf := zf_elim hf
  obtain ⟨rfl, hf⟩ | ⟨q1, rfl, hf⟩ := hf
  · refine zv_p (k := 1) (f' := (141, [(0, .ref p0), (2, .int p1), (3, .null)], [])) zq_69 zo_69 (by with_unfolding_all rfl) ?_
    refine zv_p (k := 1) (f' := (142, [(0, .ref p0), (2, .int p1), (3, .null)], [.null])) zq_69 zo_69 (by with_unfolding_all rfl) ?_
    cases hf
    exact zv_r zq_69 zo_69 rfl rfl rfl rfl rfl
  · refine zv_p (k := 1) (f' := (123, [(0, .ref p0), (2, .int p1), (3, .ref q1)], [])) zq_69 zo_69 (by with_unfolding_all rfl) ?_
    refine zv_p (k := 4) (f' := (127, [(0, .ref p0), (2, .int p1), (3, .ref q1)], [.int (1 : Int32), .int (p1 - p1 / (2 : Int32) * (2 : Int32))])) zq_69 zo_69 (by with_unfolding_all rfl) ?_
    replace hf := zf_ite hf
    obtain ⟨hc, hf⟩ | ⟨hc, hf⟩ := hf
    · refine zv_brT (off := 14) (tt := 141) (r := []) zq_69 zo_69 hc rfl rfl rfl ?_
      refine zv_p (k := 1) (f' := (142, [(0, .ref p0), (2, .int p1), (3, .ref q1)], [.ref q1])) zq_69 zo_69 (by with_unfolding_all rfl) ?_
      cases hf
      exact zv_r zq_69 zo_69 rfl rfl rfl rfl rfl
    · refine zv_brF (off := 14) (tt := 141) (r := []) zq_69 zo_69 hc rfl rfl rfl ?_
      refine zv_p (k := 2) (f' := (132, [(0, .ref p0), (2, .int p1), (3, .ref q1)], [.ref p0, .ref q1])) zq_69 zo_69 (by with_unfolding_all rfl) ?_
      replace hf := zf_be hf
      obtain ⟨v2, hv, hf⟩ := hf
      refine zv_gf zq_69 zo_69 rfl rfl rfl (zf_Ae hv) ?_
      replace hf := zf_be hf
      obtain ⟨_, ho, hf⟩ := hf
      replace hf := zf_b2e hf
      obtain ⟨v3, h4, hv, hf⟩ := hf
      refine zv_c zq_69 zo_69 rfl rfl rfl rfl rfl (zv_cv rfl rfl rfl (zf_ise ho) rfl) (t_f_Sheet_allRows _ _ _ _ hv) ?_
      replace hf := zf_be hf
      obtain ⟨_, ho, hf⟩ := hf
      replace hf := zf_b2e hf
      obtain ⟨v5, h6, hv, hf⟩ := hf
      refine zv_c zq_69 zo_69 rfl rfl rfl rfl rfl (zv_cv rfl rfl rfl (zf_ise ho) rfl) (t_f_Node_turn _ _ _ _ _ hv) ?_
      refine zv_p (k := 1) (f' := (142, [(0, .ref p0), (2, .int p1), (3, .ref q1)], [.ref q1])) zq_69 zo_69 (by with_unfolding_all rfl) ?_
      cases hf
      exact zv_r zq_69 zo_69 rfl rfl rfl rfl rfl
set_option maxHeartbeats 1000000 in
def f_FilterReader_readPiece_22 (r_65 : Nat → Int32 → zx_H → Option (Option Nat × zx_H)) (p0 : Nat) (p1 : Int32) (p2 : Int32) (h : zx_H) : Option (Option Nat × zx_H) :=
  zf_b (zf_A 3 0 p0 h) fun v1 =>
  zf_b (zf_I 3 4 p0 h) fun v2 =>
  zf_b (zf_is 11 v1 h) fun _ =>
  zf_b2 (f_Tokens_formAt v1 v2 h) fun v3 h4 =>
  if v3 = (33 : Int32) then
    zf_b (zf_A 3 0 p0 h4) fun v5 =>
    zf_b (zf_I 3 4 p0 h4) fun v6 =>
    zf_b (zf_is 11 v5 h4) fun _ =>
    zf_b2 (f_Tokens_placeAt v5 v6 h4) fun v7 h8 =>
    zf_b (zf_is 3 p0 h8) fun _ =>
    zf_b2 (f_FilterReader_fail p0 (2 : Int32) v7 h8) fun v9 h10 =>
    some (v9, h10)
  else if v3 = (35 : Int32) then
    zf_b (zf_is 3 p0 h4) fun _ =>
    zf_b2 (f_FilterReader_readTest p0 h4) fun v11 h12 =>
    f_FilterReader_readPiece_119 r_65 p0 p2 v11 h12
  else if v3 = (40 : Int32) then
    zf_b (zf_is 3 p0 h4) fun _ =>
    zf_b2 (f_FilterReader_readBrackets r_65 p0 p1 h4) fun v13 h14 =>
    f_FilterReader_readPiece_119 r_65 p0 p2 v13 h14
  else
    zf_b (zf_A 3 0 p0 h4) fun v15 =>
    zf_b (zf_I 3 4 p0 h4) fun v16 =>
    zf_b (zf_is 11 v15 h4) fun _ =>
    zf_b2 (f_Tokens_placeAt v15 v16 h4) fun v17 h18 =>
    zf_b (zf_is 3 p0 h18) fun _ =>
    zf_b2 (f_FilterReader_fail p0 (1 : Int32) v17 h18) fun v19 h20 =>
    some (v19, h20)
set_option maxHeartbeats 4000000 in
set_option maxRecDepth 400000 in
theorem t_f_FilterReader_readPiece_22 {sc : (Nat × (Nat → Int32)) × Bool} {d : Nat} {r_65 : Nat → Int32 → zx_H → Option (Option Nat × zx_H)} (hr : ∀ (a0 : Nat) (a1 : Int32) (h : zx_H) (r : Option Nat) (h' : zx_H), r_65 a0 a1 h = some (r, h') → zx_T sc d 65 (0, [(0, .ref a0), (1, .int a1)], []) h (zf_oN r) h') (p0 : Nat) (p1 : Int32) (p2 : Int32) (h : zx_H) (r : Option Nat) (h' : zx_H) (hf : f_FilterReader_readPiece_22 r_65 p0 p1 p2 h = some (r, h')) : zx_T sc (d + 4) 69 (22, [(0, .ref p0), (1, .int p1), (2, .int p2)], []) h (zf_oN r) h' := by
  unfold f_FilterReader_readPiece_22 at hf
  refine zv_p (k := 1) (f' := (23, [(0, .ref p0), (1, .int p1), (2, .int p2)], [.ref p0])) zq_69 zo_69 (by with_unfolding_all rfl) ?_
  replace hf := zf_be hf
  obtain ⟨v1, hv, hf⟩ := hf
  refine zv_gf zq_69 zo_69 rfl rfl rfl (zf_Ae hv) ?_
  refine zv_p (k := 1) (f' := (27, [(0, .ref p0), (1, .int p1), (2, .int p2)], [.ref p0, .ref v1])) zq_69 zo_69 (by with_unfolding_all rfl) ?_
  replace hf := zf_be hf
  obtain ⟨v2, hv, hf⟩ := hf
  refine zv_gf zq_69 zo_69 rfl rfl rfl (zf_Ie hv) ?_
  replace hf := zf_be hf
  obtain ⟨_, ho, hf⟩ := hf
  replace hf := zf_b2e hf
  obtain ⟨v3, h4, hv, hf⟩ := hf
  refine zv_c zq_69 zo_69 rfl rfl rfl rfl rfl (zv_cv rfl rfl rfl (zf_ise ho) rfl) (t_f_Tokens_formAt _ _ _ _ _ hv) ?_
  replace hf := zf_ite hf
  obtain ⟨hc, hf⟩ | ⟨hs0, hf⟩ := hf
  · refine zv_sw (f' := (68, [(0, .ref p0), (1, .int p1), (2, .int p2)], [])) zq_69 zo_69 rfl hc rfl ?_
    refine zv_p (k := 3) (f' := (71, [(0, .ref p0), (1, .int p1), (2, .int p2)], [.ref p0, .int (2 : Int32), .ref p0])) zq_69 zo_69 (by with_unfolding_all rfl) ?_
    replace hf := zf_be hf
    obtain ⟨v5, hv, hf⟩ := hf
    refine zv_gf zq_69 zo_69 rfl rfl rfl (zf_Ae hv) ?_
    refine zv_p (k := 1) (f' := (75, [(0, .ref p0), (1, .int p1), (2, .int p2)], [.ref p0, .ref v5, .int (2 : Int32), .ref p0])) zq_69 zo_69 (by with_unfolding_all rfl) ?_
    replace hf := zf_be hf
    obtain ⟨v6, hv, hf⟩ := hf
    refine zv_gf zq_69 zo_69 rfl rfl rfl (zf_Ie hv) ?_
    replace hf := zf_be hf
    obtain ⟨_, ho, hf⟩ := hf
    replace hf := zf_b2e hf
    obtain ⟨v7, h8, hv, hf⟩ := hf
    refine zv_c zq_69 zo_69 rfl rfl rfl rfl rfl (zv_cv rfl rfl rfl (zf_ise ho) rfl) (t_f_Tokens_placeAt _ _ _ _ _ hv) ?_
    replace hf := zf_be hf
    obtain ⟨_, ho, hf⟩ := hf
    replace hf := zf_b2e hf
    obtain ⟨v9, h10, hv, hf⟩ := hf
    refine zv_c zq_69 zo_69 rfl rfl rfl rfl rfl (zv_cv rfl rfl rfl (zf_ise ho) rfl) (t_f_FilterReader_fail _ _ _ _ _ _ hv) ?_
    cases hf
    exact zv_r zq_69 zo_69 rfl (by cases r <;> rfl) (by cases r <;> rfl) (by cases r <;> rfl) (by cases r <;> rfl)
  replace hf := zf_ite hf
  obtain ⟨hc, hf⟩ | ⟨hs1, hf⟩ := hf
  · refine zv_sw (f' := (94, [(0, .ref p0), (1, .int p1), (2, .int p2)], [])) zq_69 zo_69 rfl hc rfl ?_
    refine zv_p (k := 1) (f' := (95, [(0, .ref p0), (1, .int p1), (2, .int p2)], [.ref p0])) zq_69 zo_69 (by with_unfolding_all rfl) ?_
    replace hf := zf_be hf
    obtain ⟨_, ho, hf⟩ := hf
    replace hf := zf_b2e hf
    obtain ⟨v11, h12, hv, hf⟩ := hf
    refine zv_c zq_69 zo_69 rfl rfl rfl rfl rfl (zv_cv rfl rfl rfl (zf_ise ho) rfl) (t_f_FilterReader_readTest _ _ _ _ hv) ?_
    refine zv_p (k := 2) (f' := (119, [(3, zx_rf v11), (0, .ref p0), (1, .int p1), (2, .int p2)], [])) zq_69 zo_69 (by cases v11 <;> with_unfolding_all rfl) ?_
    refine zv_pick (lv' := [(0, .ref p0), (2, .int p2), (3, zx_rf v11)]) [0, 2, 3] (by cases v11 <;> rfl) rfl ?_
    exact t_f_FilterReader_readPiece_119 hr _ _ _ _ _ _ hf
  replace hf := zf_ite hf
  obtain ⟨hc, hf⟩ | ⟨hs2, hf⟩ := hf
  · refine zv_sw (f' := (85, [(0, .ref p0), (1, .int p1), (2, .int p2)], [])) zq_69 zo_69 rfl hc rfl ?_
    refine zv_p (k := 2) (f' := (87, [(0, .ref p0), (1, .int p1), (2, .int p2)], [.int p1, .ref p0])) zq_69 zo_69 (by with_unfolding_all rfl) ?_
    replace hf := zf_be hf
    obtain ⟨_, ho, hf⟩ := hf
    replace hf := zf_b2e hf
    obtain ⟨v13, h14, hv, hf⟩ := hf
    refine zv_c zq_69 zo_69 rfl rfl rfl rfl rfl (zv_cv rfl rfl rfl (zf_ise ho) rfl) (zv_dp 1 <| t_f_FilterReader_readBrackets hr _ _ _ _ _ hv) ?_
    refine zv_p (k := 2) (f' := (119, [(3, zx_rf v13), (0, .ref p0), (1, .int p1), (2, .int p2)], [])) zq_69 zo_69 (by cases v13 <;> with_unfolding_all rfl) ?_
    refine zv_pick (lv' := [(0, .ref p0), (2, .int p2), (3, zx_rf v13)]) [0, 2, 3] (by cases v13 <;> rfl) rfl ?_
    exact t_f_FilterReader_readPiece_119 hr _ _ _ _ _ _ hf
  refine zv_lsd (tt := 102) zq_69 zo_69 rfl (zi_oc (zi_ne rfl hs0) (zi_oc (zi_ne rfl hs1) (zi_oc (zi_ne rfl hs2) (zi_on _ _)))) rfl rfl ?_
  refine zv_p (k := 3) (f' := (105, [(0, .ref p0), (1, .int p1), (2, .int p2)], [.ref p0, .int (1 : Int32), .ref p0])) zq_69 zo_69 (by with_unfolding_all rfl) ?_
  replace hf := zf_be hf
  obtain ⟨v15, hv, hf⟩ := hf
  refine zv_gf zq_69 zo_69 rfl rfl rfl (zf_Ae hv) ?_
  refine zv_p (k := 1) (f' := (109, [(0, .ref p0), (1, .int p1), (2, .int p2)], [.ref p0, .ref v15, .int (1 : Int32), .ref p0])) zq_69 zo_69 (by with_unfolding_all rfl) ?_
  replace hf := zf_be hf
  obtain ⟨v16, hv, hf⟩ := hf
  refine zv_gf zq_69 zo_69 rfl rfl rfl (zf_Ie hv) ?_
  replace hf := zf_be hf
  obtain ⟨_, ho, hf⟩ := hf
  replace hf := zf_b2e hf
  obtain ⟨v17, h18, hv, hf⟩ := hf
  refine zv_c zq_69 zo_69 rfl rfl rfl rfl rfl (zv_cv rfl rfl rfl (zf_ise ho) rfl) (t_f_Tokens_placeAt _ _ _ _ _ hv) ?_
  replace hf := zf_be hf
  obtain ⟨_, ho, hf⟩ := hf
  replace hf := zf_b2e hf
  obtain ⟨v19, h20, hv, hf⟩ := hf
  refine zv_c zq_69 zo_69 rfl rfl rfl rfl rfl (zv_cv rfl rfl rfl (zf_ise ho) rfl) (t_f_FilterReader_fail _ _ _ _ _ _ hv) ?_
  cases hf
  exact zv_r zq_69 zo_69 rfl (by cases r <;> rfl) (by cases r <;> rfl) (by cases r <;> rfl) (by cases r <;> rfl)
set_option maxHeartbeats 1000000 in
def f_FilterReader_readPiece_2 (r_65 : Nat → Int32 → zx_H → Option (Option Nat × zx_H)) : Nat → Nat → Int32 → Int32 → zx_H → Option (Option Nat × zx_H)
  | 0, _, _, _, _ => none
  | n + 1, p0, p1, p2, h =>
    if (3 : Int32) ≤ p2 then
      f_FilterReader_readPiece_22 r_65 p0 p1 p2 h
    else
      zf_b (zf_is 3 p0 h) fun _ =>
      zf_b2 (f_FilterReader_takes p0 (33 : Int32) h) fun v1 h2 =>
      if v1 = 0 then
        f_FilterReader_readPiece_22 r_65 p0 p1 p2 h2
      else
        (f_FilterReader_readPiece_2 r_65 n) p0 p1 (p2 + (1 : Int32)) h2
set_option maxHeartbeats 4000000 in
set_option maxRecDepth 400000 in
theorem t_f_FilterReader_readPiece_2 {sc : (Nat × (Nat → Int32)) × Bool} {d : Nat} {r_65 : Nat → Int32 → zx_H → Option (Option Nat × zx_H)} (hr : ∀ (a0 : Nat) (a1 : Int32) (h : zx_H) (r : Option Nat) (h' : zx_H), r_65 a0 a1 h = some (r, h') → zx_T sc d 65 (0, [(0, .ref a0), (1, .int a1)], []) h (zf_oN r) h') : ∀ (n : Nat) (p0 : Nat) (p1 : Int32) (p2 : Int32) (h : zx_H) (r : Option Nat) (h' : zx_H), f_FilterReader_readPiece_2 r_65 n p0 p1 p2 h = some (r, h') → zx_T sc (d + 4) 69 (2, [(0, .ref p0), (1, .int p1), (2, .int p2)], []) h (zf_oN r) h' := by
  intro n
  induction n with
  | zero => intro p0 p1 p2 h r h' hf; cases hf
  | succ n ih =>
    intro p0 p1 p2 h r h' hf
    unfold f_FilterReader_readPiece_2 at hf
    refine zv_p (k := 2) (f' := (4, [(0, .ref p0), (1, .int p1), (2, .int p2)], [.int (3 : Int32), .int p2])) zq_69 zo_69 (by with_unfolding_all rfl) ?_
    replace hf := zf_ite hf
    obtain ⟨hc, hf⟩ | ⟨hc, hf⟩ := hf
    · refine zv_brT (off := 18) (tt := 22) (r := []) zq_69 zo_69 hc rfl rfl rfl ?_
      refine zv_pick (lv' := [(0, .ref p0), (1, .int p1), (2, .int p2)]) [0, 1, 2] rfl rfl ?_
      exact t_f_FilterReader_readPiece_22 hr _ _ _ _ _ _ hf
    · refine zv_brF (off := 18) (tt := 22) (r := []) zq_69 zo_69 hc rfl rfl rfl ?_
      refine zv_p (k := 2) (f' := (10, [(0, .ref p0), (1, .int p1), (2, .int p2)], [.int (33 : Int32), .ref p0])) zq_69 zo_69 (by with_unfolding_all rfl) ?_
      replace hf := zf_be hf
      obtain ⟨_, ho, hf⟩ := hf
      replace hf := zf_b2e hf
      obtain ⟨v1, h2, hv, hf⟩ := hf
      refine zv_c zq_69 zo_69 rfl rfl rfl rfl rfl (zv_cv rfl rfl rfl (zf_ise ho) rfl) (t_f_FilterReader_takes _ _ _ _ _ hv) ?_
      replace hf := zf_ite hf
      obtain ⟨hc, hf⟩ | ⟨hc, hf⟩ := hf
      · refine zv_brT (off := 9) (tt := 22) (r := []) zq_69 zo_69 hc rfl rfl rfl ?_
        refine zv_pick (lv' := [(0, .ref p0), (1, .int p1), (2, .int p2)]) [0, 1, 2] rfl rfl ?_
        exact t_f_FilterReader_readPiece_22 hr _ _ _ _ _ _ hf
      · refine zv_brF (off := 9) (tt := 22) (r := []) zq_69 zo_69 hc rfl rfl rfl ?_
        refine zv_p (k := 2) (f' := (2, [(2, .int (p2 + (1 : Int32))), (0, .ref p0), (1, .int p1)], [])) zq_69 zo_69 (by with_unfolding_all rfl) ?_
        refine zv_pick (lv' := [(0, .ref p0), (1, .int p1), (2, .int (p2 + (1 : Int32)))]) [0, 1, 2] rfl rfl ?_
        exact ih _ _ _ _ _ _ hf
set_option maxHeartbeats 1000000 in
def f_FilterReader_readPiece (r_65 : Nat → Int32 → zx_H → Option (Option Nat × zx_H)) (p0 : Nat) (p1 : Int32) (h : zx_H) : Option (Option Nat × zx_H) :=
  f_FilterReader_readPiece_2 r_65 zF p0 p1 (0 : Int32) h
set_option maxHeartbeats 4000000 in
set_option maxRecDepth 400000 in
theorem t_f_FilterReader_readPiece {sc : (Nat × (Nat → Int32)) × Bool} {d : Nat} {r_65 : Nat → Int32 → zx_H → Option (Option Nat × zx_H)} (hr : ∀ (a0 : Nat) (a1 : Int32) (h : zx_H) (r : Option Nat) (h' : zx_H), r_65 a0 a1 h = some (r, h') → zx_T sc d 65 (0, [(0, .ref a0), (1, .int a1)], []) h (zf_oN r) h') (p0 : Nat) (p1 : Int32) (h : zx_H) (r : Option Nat) (h' : zx_H) (hf : f_FilterReader_readPiece r_65 p0 p1 h = some (r, h')) : zx_T sc (d + 4) 69 (0, [(0, .ref p0), (1, .int p1)], []) h (zf_oN r) h' := by
  unfold f_FilterReader_readPiece at hf
  refine zv_p (k := 2) (f' := (2, [(2, .int (0 : Int32)), (0, .ref p0), (1, .int p1)], [])) zq_69 zo_69 (by with_unfolding_all rfl) ?_
  refine zv_pick (lv' := [(0, .ref p0), (1, .int p1), (2, .int (0 : Int32))]) [0, 1, 2] rfl rfl ?_
  exact t_f_FilterReader_readPiece_2 hr zF _ _ _ _ _ _ hf
/-! ColumnVault$FilterReader.readPart (I)LColumnVault$Node; -/
noncomputable def zI_67 : zd_T := [[(0, .new 57, 3), (3, .dup, 1), (4, .iconst 1, 1), (5, .aload_n 0, 1), (6, .getfield 32, 3), (9, .invokevirtual 73, 3), (12, .invokespecial 59, 3), (15, .astore_n 2, 1), (16, .iconst 1, 1), (17, .istore_n 3, 1), (18, .iconst 0, 1), (19, .istore 4, 2), (21, .iload 4, 2), (23, .sipush 160, 3), (26, .if_icmp .ge 40, 3), (29, .iload_n 3, 1), (30, .ifCond .eq 36, 3)], [(33, .aload_n 0, 1), (34, .iload_n 1, 1), (35, .invokevirtual 79, 3), (38, .astore 5, 2), (40, .aload 5, 2), (42, .ifnonnull 5, 3), (45, .aconst_null, 1), (46, .areturn, 1), (47, .aload_n 2, 1), (48, .aload 5, 2), (50, .invokevirtual 65, 3), (53, .aload_n 0, 1), (54, .bipush 38, 2), (56, .invokevirtual 69, 3), (59, .istore_n 3, 1), (60, .iinc 4 1, 3), (63, .goto (-42), 3)], [(66, .aload_n 2, 1), (67, .areturn, 1)]]
theorem zo_67 : zd_of 67 = some zI_67 := rfl
set_option maxRecDepth 100000 in
theorem zq_67 : zt_m[67]? = some (⟨"ColumnVault$FilterReader", "readPart", "(I)LColumnVault$Node;"⟩, prog_3_method_6_code, 6, some (.object "ColumnVault$Node"), [], 3, 1, 0, 0, 0, 0) := rfl
set_option maxHeartbeats 1000000 in
def f_FilterReader_readPart_21 (r_65 : Nat → Int32 → zx_H → Option (Option Nat × zx_H)) : Nat → Nat → Int32 → Nat → Int32 → Int32 → zx_H → Option (Option Nat × zx_H)
  | 0, _, _, _, _, _, _ => none
  | n + 1, p0, p1, p2, p3, p4, h =>
    if (160 : Int32) ≤ p4 then
      some ((some p2), h)
    else
      if p3 = 0 then
        some ((some p2), h)
      else
        zf_b (zf_is 3 p0 h) fun _ =>
        zf_b2 (f_FilterReader_readPiece r_65 p0 p1 h) fun v1 h2 =>
        zf_on v1 (
          some (none, h2)
        ) fun q3 =>
          zf_b (zf_is 8 p2 h2) fun _ =>
          zf_b2 (f_Node_put p2 q3 h2) fun _ h5 =>
          zf_b (zf_is 3 p0 h5) fun _ =>
          zf_b2 (f_FilterReader_takes p0 (38 : Int32) h5) fun v6 h7 =>
          (f_FilterReader_readPart_21 r_65 n) p0 p1 p2 v6 (p4 + (1 : Int32)) h7
set_option maxHeartbeats 4000000 in
set_option maxRecDepth 400000 in
theorem t_f_FilterReader_readPart_21 {sc : (Nat × (Nat → Int32)) × Bool} {d : Nat} {r_65 : Nat → Int32 → zx_H → Option (Option Nat × zx_H)} (hr : ∀ (a0 : Nat) (a1 : Int32) (h : zx_H) (r : Option Nat) (h' : zx_H), r_65 a0 a1 h = some (r, h') → zx_T sc d 65 (0, [(0, .ref a0), (1, .int a1)], []) h (zf_oN r) h') : ∀ (n : Nat) (p0 : Nat) (p1 : Int32) (p2 : Nat) (p3 : Int32) (p4 : Int32) (h : zx_H) (r : Option Nat) (h' : zx_H), f_FilterReader_readPart_21 r_65 n p0 p1 p2 p3 p4 h = some (r, h') → zx_T sc (d + 5) 67 (21, [(0, .ref p0), (1, .int p1), (2, .ref p2), (3, .int p3), (4, .int p4)], []) h (zf_oN r) h' := by
  intro n
  induction n with
  | zero => intro p0 p1 p2 p3 p4 h r h' hf; cases hf
  | succ n ih =>
    intro p0 p1 p2 p3 p4 h r h' hf
    unfold f_FilterReader_readPart_21 at hf
    refine zv_p (k := 2) (f' := (26, [(0, .ref p0), (1, .int p1), (2, .ref p2), (3, .int p3), (4, .int p4)], [.int (160 : Int32), .int p4])) zq_67 zo_67 (by with_unfolding_all rfl) ?_
    replace hf := zf_ite hf
    obtain ⟨hc, hf⟩ | ⟨hc, hf⟩ := hf
    · refine zv_brT (off := 40) (tt := 66) (r := []) zq_67 zo_67 hc rfl rfl rfl ?_
      refine zv_p (k := 1) (f' := (67, [(0, .ref p0), (1, .int p1), (2, .ref p2), (3, .int p3), (4, .int p4)], [.ref p2])) zq_67 zo_67 (by with_unfolding_all rfl) ?_
      cases hf
      exact zv_r zq_67 zo_67 rfl rfl rfl rfl rfl
    · refine zv_brF (off := 40) (tt := 66) (r := []) zq_67 zo_67 hc rfl rfl rfl ?_
      refine zv_p (k := 1) (f' := (30, [(0, .ref p0), (1, .int p1), (2, .ref p2), (3, .int p3), (4, .int p4)], [.int p3])) zq_67 zo_67 (by with_unfolding_all rfl) ?_
      replace hf := zf_ite hf
      obtain ⟨hc, hf⟩ | ⟨hc, hf⟩ := hf
      · refine zv_brT (off := 36) (tt := 66) (r := []) zq_67 zo_67 hc rfl rfl rfl ?_
        refine zv_p (k := 1) (f' := (67, [(0, .ref p0), (1, .int p1), (2, .ref p2), (3, .int p3), (4, .int p4)], [.ref p2])) zq_67 zo_67 (by with_unfolding_all rfl) ?_
        cases hf
        exact zv_r zq_67 zo_67 rfl rfl rfl rfl rfl
      · refine zv_brF (off := 36) (tt := 66) (r := []) zq_67 zo_67 hc rfl rfl rfl ?_
        refine zv_p (k := 2) (f' := (35, [(0, .ref p0), (1, .int p1), (2, .ref p2), (3, .int p3), (4, .int p4)], [.int p1, .ref p0])) zq_67 zo_67 (by with_unfolding_all rfl) ?_
        replace hf := zf_be hf
        obtain ⟨_, ho, hf⟩ := hf
        replace hf := zf_b2e hf
        obtain ⟨v1, h2, hv, hf⟩ := hf
        refine zv_c zq_67 zo_67 rfl rfl rfl rfl rfl (zv_cv rfl rfl rfl (zf_ise ho) rfl) (zv_dp 0 <| t_f_FilterReader_readPiece hr _ _ _ _ _ hv) ?_
        refine zv_p (k := 2) (f' := (42, [(5, zx_rf v1), (0, .ref p0), (1, .int p1), (2, .ref p2), (3, .int p3), (4, .int p4)], [zx_rf v1])) zq_67 zo_67 (by cases v1 <;> with_unfolding_all rfl) ?_
        replace hf := zf_elim hf
        obtain ⟨rfl, hf⟩ | ⟨q3, rfl, hf⟩ := hf
        · refine zv_p (k := 1) (f' := (45, [(5, .null), (0, .ref p0), (1, .int p1), (2, .ref p2), (3, .int p3), (4, .int p4)], [])) zq_67 zo_67 (by with_unfolding_all rfl) ?_
          refine zv_p (k := 1) (f' := (46, [(5, .null), (0, .ref p0), (1, .int p1), (2, .ref p2), (3, .int p3), (4, .int p4)], [.null])) zq_67 zo_67 (by with_unfolding_all rfl) ?_
          cases hf
          exact zv_r zq_67 zo_67 rfl rfl rfl rfl rfl
        · refine zv_p (k := 1) (f' := (47, [(5, .ref q3), (0, .ref p0), (1, .int p1), (2, .ref p2), (3, .int p3), (4, .int p4)], [])) zq_67 zo_67 (by with_unfolding_all rfl) ?_
          refine zv_p (k := 2) (f' := (50, [(5, .ref q3), (0, .ref p0), (1, .int p1), (2, .ref p2), (3, .int p3), (4, .int p4)], [.ref q3, .ref p2])) zq_67 zo_67 (by with_unfolding_all rfl) ?_
          replace hf := zf_be hf
          obtain ⟨_, ho, hf⟩ := hf
          replace hf := zf_b2e hf
          obtain ⟨v4, h5, hv, hf⟩ := hf
          refine zv_c zq_67 zo_67 rfl rfl rfl rfl rfl (zv_cv rfl rfl rfl (zf_ise ho) rfl) (t_f_Node_put _ _ _ _ _ hv) ?_
          refine zv_p (k := 2) (f' := (56, [(5, .ref q3), (0, .ref p0), (1, .int p1), (2, .ref p2), (3, .int p3), (4, .int p4)], [.int (38 : Int32), .ref p0])) zq_67 zo_67 (by with_unfolding_all rfl) ?_
          replace hf := zf_be hf
          obtain ⟨_, ho, hf⟩ := hf
          replace hf := zf_b2e hf
          obtain ⟨v6, h7, hv, hf⟩ := hf
          refine zv_c zq_67 zo_67 rfl rfl rfl rfl rfl (zv_cv rfl rfl rfl (zf_ise ho) rfl) (t_f_FilterReader_takes _ _ _ _ _ hv) ?_
          refine zv_p (k := 3) (f' := (21, [(4, .int (p4 + (1 : Int32))), (3, .int v6), (5, .ref q3), (0, .ref p0), (1, .int p1), (2, .ref p2)], [])) zq_67 zo_67 (by with_unfolding_all rfl) ?_
          refine zv_pick (lv' := [(0, .ref p0), (1, .int p1), (2, .ref p2), (3, .int v6), (4, .int (p4 + (1 : Int32)))]) [0, 1, 2, 3, 4] rfl rfl ?_
          exact ih _ _ _ _ _ _ _ _ hf
set_option maxHeartbeats 1000000 in
def f_FilterReader_readPart (r_65 : Nat → Int32 → zx_H → Option (Option Nat × zx_H)) (p0 : Nat) (p1 : Int32) (h : zx_H) : Option (Option Nat × zx_H) :=
  zf_b2 (zf_new 8 h) fun q1 h2 =>
  zf_b (zf_A 3 1 p0 h2) fun v3 =>
  zf_b (zf_is 10 v3 h2) fun _ =>
  zf_b2 (f_Sheet_allRows v3 h2) fun v4 h5 =>
  zf_b2 (f_Node_init q1 (1 : Int32) v4 h5) fun _ h7 =>
  f_FilterReader_readPart_21 r_65 zF p0 p1 q1 (1 : Int32) (0 : Int32) h7
set_option maxHeartbeats 4000000 in
set_option maxRecDepth 400000 in
theorem t_f_FilterReader_readPart {sc : (Nat × (Nat → Int32)) × Bool} {d : Nat} {r_65 : Nat → Int32 → zx_H → Option (Option Nat × zx_H)} (hr : ∀ (a0 : Nat) (a1 : Int32) (h : zx_H) (r : Option Nat) (h' : zx_H), r_65 a0 a1 h = some (r, h') → zx_T sc d 65 (0, [(0, .ref a0), (1, .int a1)], []) h (zf_oN r) h') (p0 : Nat) (p1 : Int32) (h : zx_H) (r : Option Nat) (h' : zx_H) (hf : f_FilterReader_readPart r_65 p0 p1 h = some (r, h')) : zx_T sc (d + 5) 67 (0, [(0, .ref p0), (1, .int p1)], []) h (zf_oN r) h' := by
  unfold f_FilterReader_readPart at hf
  replace hf := zf_b2e hf
  obtain ⟨q1, h2, hv, hf⟩ := hf
  refine zv_new zq_67 zo_67 rfl rfl rfl hv ?_
  refine zv_p (k := 3) (f' := (6, [(0, .ref p0), (1, .int p1)], [.ref p0, .int (1 : Int32), .ref q1, .ref q1])) zq_67 zo_67 (by with_unfolding_all rfl) ?_
  replace hf := zf_be hf
  obtain ⟨v3, hv, hf⟩ := hf
  refine zv_gf zq_67 zo_67 rfl rfl rfl (zf_Ae hv) ?_
  replace hf := zf_be hf
  obtain ⟨_, ho, hf⟩ := hf
  replace hf := zf_b2e hf
  obtain ⟨v4, h5, hv, hf⟩ := hf
  refine zv_c zq_67 zo_67 rfl rfl rfl rfl rfl (zv_cv rfl rfl rfl (zf_ise ho) rfl) (t_f_Sheet_allRows _ _ _ _ hv) ?_
  replace hf := zf_b2e hf
  obtain ⟨v6, h7, hv, hf⟩ := hf
  refine zv_c zq_67 zo_67 rfl rfl rfl rfl rfl rfl (t_f_Node_init _ _ _ _ _ _ hv) ?_
  refine zv_p (k := 5) (f' := (21, [(4, .int (0 : Int32)), (3, .int (1 : Int32)), (2, .ref q1), (0, .ref p0), (1, .int p1)], [])) zq_67 zo_67 (by with_unfolding_all rfl) ?_
  refine zv_pick (lv' := [(0, .ref p0), (1, .int p1), (2, .ref q1), (3, .int (1 : Int32)), (4, .int (0 : Int32))]) [0, 1, 2, 3, 4] rfl rfl ?_
  exact t_f_FilterReader_readPart_21 hr zF _ _ _ _ _ _ _ _ hf
/-! ColumnVault$FilterReader.readFilter (I)LColumnVault$Node; -/
noncomputable def zI_65 : zd_T := [[(0, .new 57, 3), (3, .dup, 1), (4, .iconst 2, 1), (5, .lconst 0, 1), (6, .invokespecial 59, 3), (9, .astore_n 2, 1), (10, .iconst 1, 1), (11, .istore_n 3, 1), (12, .iconst 0, 1), (13, .istore 4, 2), (15, .iload 4, 2), (17, .sipush 160, 3), (20, .if_icmp .ge 40, 3), (23, .iload_n 3, 1), (24, .ifCond .eq 36, 3), (27, .aload_n 0, 1), (28, .iload_n 1, 1), (29, .invokevirtual 62, 3)], [(32, .astore 5, 2), (34, .aload 5, 2), (36, .ifnonnull 5, 3), (39, .aconst_null, 1), (40, .areturn, 1), (41, .aload_n 2, 1), (42, .aload 5, 2), (44, .invokevirtual 65, 3), (47, .aload_n 0, 1), (48, .bipush 124, 2), (50, .invokevirtual 69, 3), (53, .istore_n 3, 1), (54, .iinc 4 1, 3), (57, .goto (-42), 3), (60, .aload_n 2, 1), (61, .areturn, 1)]]
theorem zo_65 : zd_of 65 = some zI_65 := rfl
set_option maxRecDepth 100000 in
theorem zq_65 : zt_m[65]? = some (⟨"ColumnVault$FilterReader", "readFilter", "(I)LColumnVault$Node;"⟩, prog_3_method_5_code, 6, some (.object "ColumnVault$Node"), [], 3, 1, 0, 0, 0, 0) := rfl
set_option maxHeartbeats 1000000 in
def f_FilterReader_readFilter_15 (r_65 : Nat → Int32 → zx_H → Option (Option Nat × zx_H)) : Nat → Nat → Int32 → Nat → Int32 → Int32 → zx_H → Option (Option Nat × zx_H)
  | 0, _, _, _, _, _, _ => none
  | n + 1, p0, p1, p2, p3, p4, h =>
    if (160 : Int32) ≤ p4 then
      some ((some p2), h)
    else
      if p3 = 0 then
        some ((some p2), h)
      else
        zf_b (zf_is 3 p0 h) fun _ =>
        zf_b2 (f_FilterReader_readPart r_65 p0 p1 h) fun v1 h2 =>
        zf_on v1 (
          some (none, h2)
        ) fun q3 =>
          zf_b (zf_is 8 p2 h2) fun _ =>
          zf_b2 (f_Node_put p2 q3 h2) fun _ h5 =>
          zf_b (zf_is 3 p0 h5) fun _ =>
          zf_b2 (f_FilterReader_takes p0 (124 : Int32) h5) fun v6 h7 =>
          (f_FilterReader_readFilter_15 r_65 n) p0 p1 p2 v6 (p4 + (1 : Int32)) h7
set_option maxHeartbeats 4000000 in
set_option maxRecDepth 400000 in
theorem t_f_FilterReader_readFilter_15 {sc : (Nat × (Nat → Int32)) × Bool} {d : Nat} {r_65 : Nat → Int32 → zx_H → Option (Option Nat × zx_H)} (hr : ∀ (a0 : Nat) (a1 : Int32) (h : zx_H) (r : Option Nat) (h' : zx_H), r_65 a0 a1 h = some (r, h') → zx_T sc d 65 (0, [(0, .ref a0), (1, .int a1)], []) h (zf_oN r) h') : ∀ (n : Nat) (p0 : Nat) (p1 : Int32) (p2 : Nat) (p3 : Int32) (p4 : Int32) (h : zx_H) (r : Option Nat) (h' : zx_H), f_FilterReader_readFilter_15 r_65 n p0 p1 p2 p3 p4 h = some (r, h') → zx_T sc (d + 6) 65 (15, [(0, .ref p0), (1, .int p1), (2, .ref p2), (3, .int p3), (4, .int p4)], []) h (zf_oN r) h' := by
  intro n
  induction n with
  | zero => intro p0 p1 p2 p3 p4 h r h' hf; cases hf
  | succ n ih =>
    intro p0 p1 p2 p3 p4 h r h' hf
    unfold f_FilterReader_readFilter_15 at hf
    refine zv_p (k := 2) (f' := (20, [(0, .ref p0), (1, .int p1), (2, .ref p2), (3, .int p3), (4, .int p4)], [.int (160 : Int32), .int p4])) zq_65 zo_65 (by with_unfolding_all rfl) ?_
    replace hf := zf_ite hf
    obtain ⟨hc, hf⟩ | ⟨hc, hf⟩ := hf
    · refine zv_brT (off := 40) (tt := 60) (r := []) zq_65 zo_65 hc rfl rfl rfl ?_
      refine zv_p (k := 1) (f' := (61, [(0, .ref p0), (1, .int p1), (2, .ref p2), (3, .int p3), (4, .int p4)], [.ref p2])) zq_65 zo_65 (by with_unfolding_all rfl) ?_
      cases hf
      exact zv_r zq_65 zo_65 rfl rfl rfl rfl rfl
    · refine zv_brF (off := 40) (tt := 60) (r := []) zq_65 zo_65 hc rfl rfl rfl ?_
      refine zv_p (k := 1) (f' := (24, [(0, .ref p0), (1, .int p1), (2, .ref p2), (3, .int p3), (4, .int p4)], [.int p3])) zq_65 zo_65 (by with_unfolding_all rfl) ?_
      replace hf := zf_ite hf
      obtain ⟨hc, hf⟩ | ⟨hc, hf⟩ := hf
      · refine zv_brT (off := 36) (tt := 60) (r := []) zq_65 zo_65 hc rfl rfl rfl ?_
        refine zv_p (k := 1) (f' := (61, [(0, .ref p0), (1, .int p1), (2, .ref p2), (3, .int p3), (4, .int p4)], [.ref p2])) zq_65 zo_65 (by with_unfolding_all rfl) ?_
        cases hf
        exact zv_r zq_65 zo_65 rfl rfl rfl rfl rfl
      · refine zv_brF (off := 36) (tt := 60) (r := []) zq_65 zo_65 hc rfl rfl rfl ?_
        refine zv_p (k := 2) (f' := (29, [(0, .ref p0), (1, .int p1), (2, .ref p2), (3, .int p3), (4, .int p4)], [.int p1, .ref p0])) zq_65 zo_65 (by with_unfolding_all rfl) ?_
        replace hf := zf_be hf
        obtain ⟨_, ho, hf⟩ := hf
        replace hf := zf_b2e hf
        obtain ⟨v1, h2, hv, hf⟩ := hf
        refine zv_c zq_65 zo_65 rfl rfl rfl rfl rfl (zv_cv rfl rfl rfl (zf_ise ho) rfl) (zv_dp 0 <| t_f_FilterReader_readPart hr _ _ _ _ _ hv) ?_
        refine zv_p (k := 2) (f' := (36, [(5, zx_rf v1), (0, .ref p0), (1, .int p1), (2, .ref p2), (3, .int p3), (4, .int p4)], [zx_rf v1])) zq_65 zo_65 (by cases v1 <;> with_unfolding_all rfl) ?_
        replace hf := zf_elim hf
        obtain ⟨rfl, hf⟩ | ⟨q3, rfl, hf⟩ := hf
        · refine zv_p (k := 1) (f' := (39, [(5, .null), (0, .ref p0), (1, .int p1), (2, .ref p2), (3, .int p3), (4, .int p4)], [])) zq_65 zo_65 (by with_unfolding_all rfl) ?_
          refine zv_p (k := 1) (f' := (40, [(5, .null), (0, .ref p0), (1, .int p1), (2, .ref p2), (3, .int p3), (4, .int p4)], [.null])) zq_65 zo_65 (by with_unfolding_all rfl) ?_
          cases hf
          exact zv_r zq_65 zo_65 rfl rfl rfl rfl rfl
        · refine zv_p (k := 1) (f' := (41, [(5, .ref q3), (0, .ref p0), (1, .int p1), (2, .ref p2), (3, .int p3), (4, .int p4)], [])) zq_65 zo_65 (by with_unfolding_all rfl) ?_
          refine zv_p (k := 2) (f' := (44, [(5, .ref q3), (0, .ref p0), (1, .int p1), (2, .ref p2), (3, .int p3), (4, .int p4)], [.ref q3, .ref p2])) zq_65 zo_65 (by with_unfolding_all rfl) ?_
          replace hf := zf_be hf
          obtain ⟨_, ho, hf⟩ := hf
          replace hf := zf_b2e hf
          obtain ⟨v4, h5, hv, hf⟩ := hf
          refine zv_c zq_65 zo_65 rfl rfl rfl rfl rfl (zv_cv rfl rfl rfl (zf_ise ho) rfl) (t_f_Node_put _ _ _ _ _ hv) ?_
          refine zv_p (k := 2) (f' := (50, [(5, .ref q3), (0, .ref p0), (1, .int p1), (2, .ref p2), (3, .int p3), (4, .int p4)], [.int (124 : Int32), .ref p0])) zq_65 zo_65 (by with_unfolding_all rfl) ?_
          replace hf := zf_be hf
          obtain ⟨_, ho, hf⟩ := hf
          replace hf := zf_b2e hf
          obtain ⟨v6, h7, hv, hf⟩ := hf
          refine zv_c zq_65 zo_65 rfl rfl rfl rfl rfl (zv_cv rfl rfl rfl (zf_ise ho) rfl) (t_f_FilterReader_takes _ _ _ _ _ hv) ?_
          refine zv_p (k := 3) (f' := (15, [(4, .int (p4 + (1 : Int32))), (3, .int v6), (5, .ref q3), (0, .ref p0), (1, .int p1), (2, .ref p2)], [])) zq_65 zo_65 (by with_unfolding_all rfl) ?_
          refine zv_pick (lv' := [(0, .ref p0), (1, .int p1), (2, .ref p2), (3, .int v6), (4, .int (p4 + (1 : Int32)))]) [0, 1, 2, 3, 4] rfl rfl ?_
          exact ih _ _ _ _ _ _ _ _ hf
