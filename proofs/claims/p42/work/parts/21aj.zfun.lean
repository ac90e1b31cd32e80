set_option maxHeartbeats 1000000 in
def f_Tokens_placeAt (p0 : Nat) (p1 : Int32) (h : zx_H) : Option (Int32 × zx_H) :=
  if p1 < 0 then
    some ((-1 : Int32), h)
  else
    zf_b (zf_I 11 3 p0 h) fun v1 =>
    if v1 ≤ p1 then
      some ((-1 : Int32), h)
    else
      zf_b (zf_A 11 1 p0 h) fun v2 =>
      zf_b (zf_ldI v2 p1 h) fun v3 =>
      some (v3, h)
set_option maxHeartbeats 4000000 in
set_option maxRecDepth 400000 in
theorem t_f_Tokens_placeAt {sc : (Nat × (Nat → Int32)) × Bool} {d : Nat} (p0 : Nat) (p1 : Int32) (h : zx_H) (r : Int32) (h' : zx_H) (hf : f_Tokens_placeAt p0 p1 h = some (r, h')) : zx_T sc d 72 (0, [(0, .ref p0), (1, .int p1)], []) h (zf_oI r) h' := by
  unfold f_Tokens_placeAt at hf
  refine zv_p (k := 1) (f' := (1, [(0, .ref p0), (1, .int p1)], [.int p1])) zq_72 zo_72 (by with_unfolding_all rfl) ?_
  replace hf := zf_ite hf
  obtain ⟨hc, hf⟩ | ⟨hc, hf⟩ := hf
  · refine zv_brT (off := 20) (tt := 21) (r := []) zq_72 zo_72 hc rfl rfl rfl ?_
    refine zv_p (k := 1) (f' := (22, [(0, .ref p0), (1, .int p1)], [.int (-1 : Int32)])) zq_72 zo_72 (by with_unfolding_all rfl) ?_
    cases hf
    exact zv_rn zq_72 zo_72 rfl rfl
  · refine zv_brF (off := 20) (tt := 21) (r := []) zq_72 zo_72 hc rfl rfl rfl ?_
    refine zv_p (k := 2) (f' := (6, [(0, .ref p0), (1, .int p1)], [.ref p0, .int p1])) zq_72 zo_72 (by with_unfolding_all rfl) ?_
    replace hf := zf_be hf
    obtain ⟨v1, hv, hf⟩ := hf
    refine zv_gf zq_72 zo_72 rfl rfl rfl (zf_Ie hv) ?_
    replace hf := zf_ite hf
    obtain ⟨hc, hf⟩ | ⟨hc, hf⟩ := hf
    · refine zv_brT (off := 12) (tt := 21) (r := []) zq_72 zo_72 hc rfl rfl rfl ?_
      refine zv_p (k := 1) (f' := (22, [(0, .ref p0), (1, .int p1)], [.int (-1 : Int32)])) zq_72 zo_72 (by with_unfolding_all rfl) ?_
      cases hf
      exact zv_rn zq_72 zo_72 rfl rfl
    · refine zv_brF (off := 12) (tt := 21) (r := []) zq_72 zo_72 hc rfl rfl rfl ?_
      refine zv_p (k := 1) (f' := (13, [(0, .ref p0), (1, .int p1)], [.ref p0])) zq_72 zo_72 (by with_unfolding_all rfl) ?_
      replace hf := zf_be hf
      obtain ⟨v2, hv, hf⟩ := hf
      refine zv_gf zq_72 zo_72 rfl rfl rfl (zf_Ae hv) ?_
      refine zv_p (k := 1) (f' := (17, [(0, .ref p0), (1, .int p1)], [.int p1, .ref v2])) zq_72 zo_72 (by with_unfolding_all rfl) ?_
      replace hf := zf_be hf
      obtain ⟨v3, hv, hf⟩ := hf
      refine zv_ldI zq_72 zo_72 rfl hv ?_
      refine zv_p (k := 1) (f' := (22, [(0, .ref p0), (1, .int p1)], [.int v3])) zq_72 zo_72 (by with_unfolding_all rfl) ?_
      cases hf
      exact zv_rn zq_72 zo_72 rfl rfl
/-! ColumnVault$FilterReader.fail (II)LColumnVault$Node; -/
noncomputable def zI_73 : zd_T := [[(0, .aload_n 0, 1), (1, .iload_n 1, 1), (2, .putfield 22, 3), (5, .aload_n 0, 1), (6, .iload_n 2, 1), (7, .putfield 25, 3), (10, .aconst_null, 1), (11, .areturn, 1)]]
theorem zo_73 : zd_of 73 = some zI_73 := rfl
set_option maxRecDepth 100000 in
theorem zq_73 : zt_m[73]? = some (⟨"ColumnVault$FilterReader", "fail", "(II)LColumnVault$Node;"⟩, prog_3_method_3_code, 3, some (.object "ColumnVault$Node"), [], 3, 2, 0, 0, 0, 0) := rfl
set_option maxHeartbeats 1000000 in
def f_FilterReader_fail (p0 : Nat) (p1 : Int32) (p2 : Int32) (h : zx_H) : Option (Option Nat × zx_H) :=
  zf_b (zf_put 3 5 p0 (.int p1) h) fun h1 =>
  zf_b (zf_put 3 6 p0 (.int p2) h1) fun h2 =>
  some (none, h2)
set_option maxHeartbeats 4000000 in
set_option maxRecDepth 400000 in
theorem t_f_FilterReader_fail {sc : (Nat × (Nat → Int32)) × Bool} {d : Nat} (p0 : Nat) (p1 : Int32) (p2 : Int32) (h : zx_H) (r : Option Nat) (h' : zx_H) (hf : f_FilterReader_fail p0 p1 p2 h = some (r, h')) : zx_T sc d 73 (0, [(0, .ref p0), (1, .int p1), (2, .int p2)], []) h (zf_oN r) h' := by
  unfold f_FilterReader_fail at hf
  refine zv_p (k := 2) (f' := (2, [(0, .ref p0), (1, .int p1), (2, .int p2)], [.int p1, .ref p0])) zq_73 zo_73 (by with_unfolding_all rfl) ?_
  replace hf := zf_be hf
  obtain ⟨h1, hv, hf⟩ := hf
  refine zv_pf zq_73 zo_73 rfl rfl rfl rfl hv ?_
  refine zv_p (k := 2) (f' := (7, [(0, .ref p0), (1, .int p1), (2, .int p2)], [.int p2, .ref p0])) zq_73 zo_73 (by with_unfolding_all rfl) ?_
  replace hf := zf_be hf
  obtain ⟨h2, hv, hf⟩ := hf
  refine zv_pf zq_73 zo_73 rfl rfl rfl rfl hv ?_
  refine zv_p (k := 1) (f' := (11, [(0, .ref p0), (1, .int p1), (2, .int p2)], [.null])) zq_73 zo_73 (by with_unfolding_all rfl) ?_
  cases hf
  exact zv_r zq_73 zo_73 rfl rfl rfl rfl rfl
/-! ColumnVault$Tokens.valueAt (I)J -/
noncomputable def zI_76 : zd_T := [[(0, .iload_n 1, 1), (1, .ifCond .lt 20, 3), (4, .iload_n 1, 1), (5, .aload_n 0, 1), (6, .getfield 22, 3), (9, .if_icmp .ge 12, 3), (12, .aload_n 0, 1), (13, .getfield 18, 3), (16, .iload_n 1, 1), (17, .laload, 1), (18, .goto 6, 3), (21, .ldc2_w 45, 3), (24, .lreturn, 1)]]
theorem zo_76 : zd_of 76 = some zI_76 := rfl
set_option maxRecDepth 100000 in
theorem zq_76 : zt_m[76]? = some (⟨"ColumnVault$Tokens", "valueAt", "(I)J"⟩, prog_11_method_9_code, 2, some (.long), [], 11, 1, 0, 0, 0, 0) := rfl
set_option maxHeartbeats 1000000 in
def f_Tokens_valueAt (p0 : Nat) (p1 : Int32) (h : zx_H) : Option (Int64 × zx_H) :=
  if p1 < 0 then
    some ((-1 : Int64), h)
  else
    zf_b (zf_I 11 3 p0 h) fun v1 =>
    if v1 ≤ p1 then
      some ((-1 : Int64), h)
    else
      zf_b (zf_A 11 2 p0 h) fun v2 =>
      zf_b (zf_ldJ v2 p1 h) fun v3 =>
      some (v3, h)
set_option maxHeartbeats 4000000 in
set_option maxRecDepth 400000 in
theorem t_f_Tokens_valueAt {sc : (Nat × (Nat → Int32)) × Bool} {d : Nat} (p0 : Nat) (p1 : Int32) (h : zx_H) (r : Int64) (h' : zx_H) (hf : f_Tokens_valueAt p0 p1 h = some (r, h')) : zx_T sc d 76 (0, [(0, .ref p0), (1, .int p1)], []) h (zf_oJ r) h' := by
  unfold f_Tokens_valueAt at hf
  refine zv_p (k := 1) (f' := (1, [(0, .ref p0), (1, .int p1)], [.int p1])) zq_76 zo_76 (by with_unfolding_all rfl) ?_
  replace hf := zf_ite hf
  obtain ⟨hc, hf⟩ | ⟨hc, hf⟩ := hf
  · refine zv_brT (off := 20) (tt := 21) (r := []) zq_76 zo_76 hc rfl rfl rfl ?_
    refine zv_lng zq_76 zo_76 rfl rfl ?_
    cases hf
    exact zv_r zq_76 zo_76 rfl rfl rfl rfl rfl
  · refine zv_brF (off := 20) (tt := 21) (r := []) zq_76 zo_76 hc rfl rfl rfl ?_
    refine zv_p (k := 2) (f' := (6, [(0, .ref p0), (1, .int p1)], [.ref p0, .int p1])) zq_76 zo_76 (by with_unfolding_all rfl) ?_
    replace hf := zf_be hf
    obtain ⟨v1, hv, hf⟩ := hf
    refine zv_gf zq_76 zo_76 rfl rfl rfl (zf_Ie hv) ?_
    replace hf := zf_ite hf
    obtain ⟨hc, hf⟩ | ⟨hc, hf⟩ := hf
    · refine zv_brT (off := 12) (tt := 21) (r := []) zq_76 zo_76 hc rfl rfl rfl ?_
      refine zv_lng zq_76 zo_76 rfl rfl ?_
      cases hf
      exact zv_r zq_76 zo_76 rfl rfl rfl rfl rfl
    · refine zv_brF (off := 12) (tt := 21) (r := []) zq_76 zo_76 hc rfl rfl rfl ?_
      refine zv_p (k := 1) (f' := (13, [(0, .ref p0), (1, .int p1)], [.ref p0])) zq_76 zo_76 (by with_unfolding_all rfl) ?_
      replace hf := zf_be hf
      obtain ⟨v2, hv, hf⟩ := hf
      refine zv_gf zq_76 zo_76 rfl rfl rfl (zf_Ae hv) ?_
      refine zv_p (k := 1) (f' := (17, [(0, .ref p0), (1, .int p1)], [.int p1, .ref v2])) zq_76 zo_76 (by with_unfolding_all rfl) ?_
      replace hf := zf_be hf
      obtain ⟨v3, hv, hf⟩ := hf
      refine zv_ldJ zq_76 zo_76 rfl hv ?_
      refine zv_p (k := 1) (f' := (24, [(0, .ref p0), (1, .int p1)], [.long v3])) zq_76 zo_76 (by with_unfolding_all rfl) ?_
      cases hf
      exact zv_r zq_76 zo_76 rfl rfl rfl rfl rfl
/-! ColumnVault$FilterReader.askedBy (I)I -/
noncomputable def zI_77 : zd_T := [[(0, .aload_n 0, 1), (1, .getfield 28, 3), (4, .iload_n 1, 1), (5, .invokevirtual 46, 3), (8, .istore_n 2, 1), (9, .iload_n 2, 1), (10, .bipush 60, 2), (12, .if_icmp .eq 15, 3), (15, .iload_n 2, 1), (16, .bipush 62, 2), (18, .if_icmp .eq 9, 3), (21, .iload_n 2, 1), (22, .bipush 61, 2), (24, .if_icmp .ne 5, 3), (27, .iload_n 2, 1), (28, .ireturn, 1), (29, .iload_n 2, 1), (30, .bipush 97, 2)], [(32, .if_icmp .ne 14, 3), (35, .aload_n 0, 1), (36, .getfield 28, 3), (39, .iload_n 1, 1), (40, .invokevirtual 93, 3), (43, .goto 6, 3), (46, .ldc2_w 114, 3), (49, .lstore_n 3, 1), (50, .lload_n 3, 1), (51, .ldc2_w 116, 3), (54, .lcmp, 1), (55, .ifCond .ne 8, 3), (58, .bipush 116, 2), (60, .goto 30, 3), (63, .lload_n 3, 1)], [(64, .ldc2_w 118, 3), (67, .lcmp, 1), (68, .ifCond .ne 8, 3), (71, .bipush 105, 2), (73, .goto 17, 3), (76, .lload_n 3, 1), (77, .ldc2_w 120, 3), (80, .lcmp, 1), (81, .ifCond .ne 8, 3), (84, .bipush 109, 2), (86, .goto 4, 3), (89, .iconst (-1), 1), (90, .ireturn, 1)]]
theorem zo_77 : zd_of 77 = some zI_77 := rfl
set_option maxRecDepth 100000 in
theorem zq_77 : zt_m[77]? = some (⟨"ColumnVault$FilterReader", "askedBy", "(I)I"⟩, prog_3_method_10_code, 5, some (.int), [], 3, 1, 0, 0, 0, 0) := rfl
set_option maxHeartbeats 1000000 in
def f_FilterReader_askedBy_49 (p0 : Int64) (h : zx_H) : Option (Int32 × zx_H) :=
  if ¬ p0 = (29807 : Int64) then
    if ¬ p0 = (26990 : Int64) then
      if ¬ p0 = (30796717039906407 : Int64) then
        some ((-1 : Int32), h)
      else
        some ((109 : Int32), h)
    else
      some ((105 : Int32), h)
  else
    some ((116 : Int32), h)
set_option maxHeartbeats 4000000 in
set_option maxRecDepth 400000 in
theorem t_f_FilterReader_askedBy_49 {sc : (Nat × (Nat → Int32)) × Bool} {d : Nat} (p0 : Int64) (h : zx_H) (r : Int32) (h' : zx_H) (hf : f_FilterReader_askedBy_49 p0 h = some (r, h')) : zx_T sc (d + 1) 77 (49, [], [.long p0]) h (zf_oI r) h' := by
  unfold f_FilterReader_askedBy_49 at hf
  refine zv_p (k := 2) (f' := (51, [(3, .long p0)], [.long p0])) zq_77 zo_77 (by with_unfolding_all rfl) ?_
  refine zv_lng zq_77 zo_77 rfl rfl ?_
  refine zv_p (k := 1) (f' := (55, [(3, .long p0)], [.int (lg_cmp p0 (29807 : Int64))])) zq_77 zo_77 (by with_unfolding_all rfl) ?_
  replace hf := zf_ite hf
  obtain ⟨hc, hf⟩ | ⟨hc, hf⟩ := hf
  · refine zv_brT (off := 8) (tt := 63) (r := []) zq_77 zo_77 (zl_ne.mpr hc) rfl rfl rfl ?_
    refine zv_p (k := 1) (f' := (64, [(3, .long p0)], [.long p0])) zq_77 zo_77 (by with_unfolding_all rfl) ?_
    refine zv_lng zq_77 zo_77 rfl rfl ?_
    refine zv_p (k := 1) (f' := (68, [(3, .long p0)], [.int (lg_cmp p0 (26990 : Int64))])) zq_77 zo_77 (by with_unfolding_all rfl) ?_
    replace hf := zf_ite hf
    obtain ⟨hc, hf⟩ | ⟨hc, hf⟩ := hf
    · refine zv_brT (off := 8) (tt := 76) (r := []) zq_77 zo_77 (zl_ne.mpr hc) rfl rfl rfl ?_
      refine zv_p (k := 1) (f' := (77, [(3, .long p0)], [.long p0])) zq_77 zo_77 (by with_unfolding_all rfl) ?_
      refine zv_lng zq_77 zo_77 rfl rfl ?_
      refine zv_p (k := 1) (f' := (81, [(3, .long p0)], [.int (lg_cmp p0 (30796717039906407 : Int64))])) zq_77 zo_77 (by with_unfolding_all rfl) ?_
      replace hf := zf_ite hf
      obtain ⟨hc, hf⟩ | ⟨hc, hf⟩ := hf
      · refine zv_brT (off := 8) (tt := 89) (r := []) zq_77 zo_77 (zl_ne.mpr hc) rfl rfl rfl ?_
        refine zv_p (k := 1) (f' := (90, [(3, .long p0)], [.int (-1 : Int32)])) zq_77 zo_77 (by with_unfolding_all rfl) ?_
        cases hf
        exact zv_rn zq_77 zo_77 rfl rfl
      · refine zv_brF (off := 8) (tt := 89) (r := []) zq_77 zo_77 (mt zl_ne.mp hc) rfl rfl rfl ?_
        refine zv_p (k := 2) (f' := (90, [(3, .long p0)], [.int (109 : Int32)])) zq_77 zo_77 (by with_unfolding_all rfl) ?_
        cases hf
        exact zv_rn zq_77 zo_77 rfl rfl
    · refine zv_brF (off := 8) (tt := 76) (r := []) zq_77 zo_77 (mt zl_ne.mp hc) rfl rfl rfl ?_
      refine zv_p (k := 2) (f' := (90, [(3, .long p0)], [.int (105 : Int32)])) zq_77 zo_77 (by with_unfolding_all rfl) ?_
      cases hf
      exact zv_rn zq_77 zo_77 rfl rfl
  · refine zv_brF (off := 8) (tt := 63) (r := []) zq_77 zo_77 (mt zl_ne.mp hc) rfl rfl rfl ?_
    refine zv_p (k := 2) (f' := (90, [(3, .long p0)], [.int (116 : Int32)])) zq_77 zo_77 (by with_unfolding_all rfl) ?_
    cases hf
    exact zv_rn zq_77 zo_77 rfl rfl
set_option maxHeartbeats 1000000 in
def f_FilterReader_askedBy (p0 : Nat) (p1 : Int32) (h : zx_H) : Option (Int32 × zx_H) :=
  zf_b (zf_A 3 0 p0 h) fun v1 =>
  zf_b (zf_is 11 v1 h) fun _ =>
  zf_b2 (f_Tokens_formAt v1 p1 h) fun v2 h3 =>
  if v2 = (60 : Int32) then
    some (v2, h3)
  else
    if v2 = (62 : Int32) then
      some (v2, h3)
    else
      if ¬ v2 = (61 : Int32) then
        if ¬ v2 = (97 : Int32) then
          f_FilterReader_askedBy_49 (-1 : Int64) h3
        else
          zf_b (zf_A 3 0 p0 h3) fun v4 =>
          zf_b (zf_is 11 v4 h3) fun _ =>
          zf_b2 (f_Tokens_valueAt v4 p1 h3) fun v5 h6 =>
          f_FilterReader_askedBy_49 v5 h6
      else
        some (v2, h3)
set_option maxHeartbeats 4000000 in
set_option maxRecDepth 400000 in
theorem t_f_FilterReader_askedBy {sc : (Nat × (Nat → Int32)) × Bool} {d : Nat} (p0 : Nat) (p1 : Int32) (h : zx_H) (r : Int32) (h' : zx_H) (hf : f_FilterReader_askedBy p0 p1 h = some (r, h')) : zx_T sc (d + 1) 77 (0, [(0, .ref p0), (1, .int p1)], []) h (zf_oI r) h' := by
  unfold f_FilterReader_askedBy at hf
  refine zv_p (k := 1) (f' := (1, [(0, .ref p0), (1, .int p1)], [.ref p0])) zq_77 zo_77 (by with_unfolding_all rfl) ?_
  replace hf := zf_be hf
  obtain ⟨v1, hv, hf⟩ := hf
  refine zv_gf zq_77 zo_77 rfl rfl rfl (zf_Ae hv) ?_
  refine zv_p (k := 1) (f' := (5, [(0, .ref p0), (1, .int p1)], [.int p1, .ref v1])) zq_77 zo_77 (by with_unfolding_all rfl) ?_
  replace hf := zf_be hf
  obtain ⟨_, ho, hf⟩ := hf
  replace hf := zf_b2e hf
  obtain ⟨v2, h3, hv, hf⟩ := hf
  refine zv_c zq_77 zo_77 rfl rfl rfl rfl rfl (zv_cv rfl rfl rfl (zf_ise ho) rfl) (t_f_Tokens_formAt _ _ _ _ _ hv) ?_
  refine zv_p (k := 3) (f' := (12, [(2, .int v2), (0, .ref p0), (1, .int p1)], [.int (60 : Int32), .int v2])) zq_77 zo_77 (by with_unfolding_all rfl) ?_
  replace hf := zf_ite hf
  obtain ⟨hc, hf⟩ | ⟨hc, hf⟩ := hf
  · refine zv_brT (off := 15) (tt := 27) (r := []) zq_77 zo_77 hc rfl rfl rfl ?_
    refine zv_p (k := 1) (f' := (28, [(2, .int v2), (0, .ref p0), (1, .int p1)], [.int v2])) zq_77 zo_77 (by with_unfolding_all rfl) ?_
    cases hf
    exact zv_rn zq_77 zo_77 rfl rfl
  · refine zv_brF (off := 15) (tt := 27) (r := []) zq_77 zo_77 hc rfl rfl rfl ?_
    refine zv_p (k := 2) (f' := (18, [(2, .int v2), (0, .ref p0), (1, .int p1)], [.int (62 : Int32), .int v2])) zq_77 zo_77 (by with_unfolding_all rfl) ?_
    replace hf := zf_ite hf
    obtain ⟨hc, hf⟩ | ⟨hc, hf⟩ := hf
    · refine zv_brT (off := 9) (tt := 27) (r := []) zq_77 zo_77 hc rfl rfl rfl ?_
      refine zv_p (k := 1) (f' := (28, [(2, .int v2), (0, .ref p0), (1, .int p1)], [.int v2])) zq_77 zo_77 (by with_unfolding_all rfl) ?_
      cases hf
      exact zv_rn zq_77 zo_77 rfl rfl
    · refine zv_brF (off := 9) (tt := 27) (r := []) zq_77 zo_77 hc rfl rfl rfl ?_
      refine zv_p (k := 2) (f' := (24, [(2, .int v2), (0, .ref p0), (1, .int p1)], [.int (61 : Int32), .int v2])) zq_77 zo_77 (by with_unfolding_all rfl) ?_
      replace hf := zf_ite hf
      obtain ⟨hc, hf⟩ | ⟨hc, hf⟩ := hf
      · refine zv_brT (off := 5) (tt := 29) (r := []) zq_77 zo_77 hc rfl rfl rfl ?_
        refine zv_p (k := 2) (f' := (32, [(2, .int v2), (0, .ref p0), (1, .int p1)], [.int (97 : Int32), .int v2])) zq_77 zo_77 (by with_unfolding_all rfl) ?_
        replace hf := zf_ite hf
        obtain ⟨hc, hf⟩ | ⟨hc, hf⟩ := hf
        · refine zv_brT (off := 14) (tt := 46) (r := []) zq_77 zo_77 hc rfl rfl rfl ?_
          refine zv_lng zq_77 zo_77 rfl rfl ?_
          refine zv_pick (lv' := []) [] rfl rfl ?_
          exact t_f_FilterReader_askedBy_49 _ _ _ _ hf
        · refine zv_brF (off := 14) (tt := 46) (r := []) zq_77 zo_77 hc rfl rfl rfl ?_
          refine zv_p (k := 1) (f' := (36, [(2, .int v2), (0, .ref p0), (1, .int p1)], [.ref p0])) zq_77 zo_77 (by with_unfolding_all rfl) ?_
          replace hf := zf_be hf
          obtain ⟨v4, hv, hf⟩ := hf
          refine zv_gf zq_77 zo_77 rfl rfl rfl (zf_Ae hv) ?_
          refine zv_p (k := 1) (f' := (40, [(2, .int v2), (0, .ref p0), (1, .int p1)], [.int p1, .ref v4])) zq_77 zo_77 (by with_unfolding_all rfl) ?_
          replace hf := zf_be hf
          obtain ⟨_, ho, hf⟩ := hf
          replace hf := zf_b2e hf
          obtain ⟨v5, h6, hv, hf⟩ := hf
          refine zv_c zq_77 zo_77 rfl rfl rfl rfl rfl (zv_cv rfl rfl rfl (zf_ise ho) rfl) (t_f_Tokens_valueAt _ _ _ _ _ hv) ?_
          refine zv_p (k := 1) (f' := (49, [(2, .int v2), (0, .ref p0), (1, .int p1)], [.long v5])) zq_77 zo_77 (by with_unfolding_all rfl) ?_
          refine zv_pick (lv' := []) [] rfl rfl ?_
          exact t_f_FilterReader_askedBy_49 _ _ _ _ hf
      · refine zv_brF (off := 5) (tt := 29) (r := []) zq_77 zo_77 hc rfl rfl rfl ?_
        refine zv_p (k := 1) (f' := (28, [(2, .int v2), (0, .ref p0), (1, .int p1)], [.int v2])) zq_77 zo_77 (by with_unfolding_all rfl) ?_
        cases hf
        exact zv_rn zq_77 zo_77 rfl rfl
/-! ColumnVault$FilterReader.isValueNext ()Z -/
noncomputable def zI_79 : zd_T := [[(0, .aload_n 0, 1), (1, .getfield 28, 3), (4, .aload_n 0, 1), (5, .getfield 19, 3), (8, .invokevirtual 46, 3), (11, .istore_n 1, 1), (12, .iload_n 1, 1), (13, .bipush 48, 2), (15, .if_icmp .eq 9, 3), (18, .iload_n 1, 1), (19, .bipush 97, 2), (21, .if_icmp .ne 7, 3), (24, .iconst 1, 1), (25, .goto 4, 3), (28, .iconst 0, 1), (29, .ireturn, 1)]]
theorem zo_79 : zd_of 79 = some zI_79 := rfl
set_option maxRecDepth 100000 in
theorem zq_79 : zt_m[79]? = some (⟨"ColumnVault$FilterReader", "isValueNext", "()Z"⟩, prog_3_method_12_code, 2, some (.boolean), [], 3, 0, 0, 0, 0, 0) := rfl
set_option maxHeartbeats 1000000 in
def f_FilterReader_isValueNext (p0 : Nat) (h : zx_H) : Option (Int32 × zx_H) :=
  zf_b (zf_A 3 0 p0 h) fun v1 =>
  zf_b (zf_I 3 4 p0 h) fun v2 =>
  zf_b (zf_is 11 v1 h) fun _ =>
  zf_b2 (f_Tokens_formAt v1 v2 h) fun v3 h4 =>
  if v3 = (48 : Int32) then
    some ((1 : Int32), h4)
  else
    if ¬ v3 = (97 : Int32) then
      some ((0 : Int32), h4)
    else
      some ((1 : Int32), h4)
set_option maxHeartbeats 4000000 in
set_option maxRecDepth 400000 in
theorem t_f_FilterReader_isValueNext {sc : (Nat × (Nat → Int32)) × Bool} {d : Nat} (p0 : Nat) (h : zx_H) (r : Int32) (h' : zx_H) (hf : f_FilterReader_isValueNext p0 h = some (r, h')) : zx_T sc (d + 1) 79 (0, [(0, .ref p0)], []) h (zf_oI r) h' := by
  unfold f_FilterReader_isValueNext at hf
  refine zv_p (k := 1) (f' := (1, [(0, .ref p0)], [.ref p0])) zq_79 zo_79 (by with_unfolding_all rfl) ?_
  replace hf := zf_be hf
  obtain ⟨v1, hv, hf⟩ := hf
  refine zv_gf zq_79 zo_79 rfl rfl rfl (zf_Ae hv) ?_
  refine zv_p (k := 1) (f' := (5, [(0, .ref p0)], [.ref p0, .ref v1])) zq_79 zo_79 (by with_unfolding_all rfl) ?_
  replace hf := zf_be hf
  obtain ⟨v2, hv, hf⟩ := hf
  refine zv_gf zq_79 zo_79 rfl rfl rfl (zf_Ie hv) ?_
  replace hf := zf_be hf
  obtain ⟨_, ho, hf⟩ := hf
  replace hf := zf_b2e hf
  obtain ⟨v3, h4, hv, hf⟩ := hf
  refine zv_c zq_79 zo_79 rfl rfl rfl rfl rfl (zv_cv rfl rfl rfl (zf_ise ho) rfl) (t_f_Tokens_formAt _ _ _ _ _ hv) ?_
  refine zv_p (k := 3) (f' := (15, [(1, .int v3), (0, .ref p0)], [.int (48 : Int32), .int v3])) zq_79 zo_79 (by with_unfolding_all rfl) ?_
  replace hf := zf_ite hf
  obtain ⟨hc, hf⟩ | ⟨hc, hf⟩ := hf
  · refine zv_brT (off := 9) (tt := 24) (r := []) zq_79 zo_79 hc rfl rfl rfl ?_
    refine zv_p (k := 2) (f' := (29, [(1, .int v3), (0, .ref p0)], [.int (1 : Int32)])) zq_79 zo_79 (by with_unfolding_all rfl) ?_
    cases hf
    exact zv_rn zq_79 zo_79 rfl rfl
  · refine zv_brF (off := 9) (tt := 24) (r := []) zq_79 zo_79 hc rfl rfl rfl ?_
    refine zv_p (k := 2) (f' := (21, [(1, .int v3), (0, .ref p0)], [.int (97 : Int32), .int v3])) zq_79 zo_79 (by with_unfolding_all rfl) ?_
    replace hf := zf_ite hf
    obtain ⟨hc, hf⟩ | ⟨hc, hf⟩ := hf
    · refine zv_brT (off := 7) (tt := 28) (r := []) zq_79 zo_79 hc rfl rfl rfl ?_
      refine zv_p (k := 1) (f' := (29, [(1, .int v3), (0, .ref p0)], [.int (0 : Int32)])) zq_79 zo_79 (by with_unfolding_all rfl) ?_
      cases hf
      exact zv_rn zq_79 zo_79 rfl rfl
    · refine zv_brF (off := 7) (tt := 28) (r := []) zq_79 zo_79 hc rfl rfl rfl ?_
      refine zv_p (k := 2) (f' := (29, [(1, .int v3), (0, .ref p0)], [.int (1 : Int32)])) zq_79 zo_79 (by with_unfolding_all rfl) ?_
      cases hf
      exact zv_rn zq_79 zo_79 rfl rfl
/-! ColumnVault$FilterReader.readValue (I)Z -/
noncomputable def zI_80 : zd_T := [[(0, .aload_n 0, 1), (1, .getfield 28, 3), (4, .aload_n 0, 1), (5, .getfield 19, 3), (8, .invokevirtual 46, 3), (11, .istore_n 2, 1), (12, .aload_n 0, 1), (13, .getfield 28, 3), (16, .aload_n 0, 1), (17, .getfield 19, 3), (20, .invokevirtual 50, 3), (23, .istore_n 3, 1), (24, .aload_n 0, 1), (25, .getfield 28, 3), (28, .aload_n 0, 1), (29, .getfield 19, 3)], [(32, .invokevirtual 93, 3), (35, .lstore 4, 2), (37, .iload_n 2, 1), (38, .bipush 97, 2), (40, .if_icmp .eq 18, 3), (43, .iload_n 2, 1), (44, .bipush 48, 2), (46, .if_icmp .eq 12, 3), (49, .aload_n 0, 1), (50, .iconst 1, 1), (51, .iload_n 3, 1), (52, .invokevirtual 53, 3), (55, .pop, 1), (56, .iconst 0, 1), (57, .ireturn, 1), (58, .lload 4, 2), (60, .ldc2_w 129, 3), (63, .lcmp, 1)], [(64, .ifCond .eq 12, 3), (67, .aload_n 0, 1), (68, .getfield 15, 3), (71, .bipush 6, 2), (73, .if_icmp .lt 12, 3), (76, .aload_n 0, 1), (77, .iconst 2, 1), (78, .iload_n 3, 1), (79, .invokevirtual 53, 3), (82, .pop, 1), (83, .iconst 0, 1), (84, .ireturn, 1), (85, .iload_n 2, 1), (86, .bipush 97, 2), (88, .if_icmp .ne 7, 3), (91, .iconst 1, 1), (92, .goto 4, 3), (95, .iconst 0, 1)], [(96, .iload_n 1, 1), (97, .iconst 1, 1), (98, .if_icmp .ne 7, 3), (101, .iconst 1, 1), (102, .goto 4, 3), (105, .iconst 0, 1), (106, .if_icmp .eq 12, 3), (109, .aload_n 0, 1), (110, .iconst 3, 1), (111, .iload_n 3, 1), (112, .invokevirtual 53, 3), (115, .pop, 1), (116, .iconst 0, 1), (117, .ireturn, 1), (118, .aload_n 0, 1), (119, .getfield 9, 3), (122, .aload_n 0, 1), (123, .getfield 15, 3), (126, .iload_n 1, 1), (127, .lload 4, 2)], [(129, .invokestatic 131, 3), (132, .lastore, 1), (133, .aload_n 0, 1), (134, .dup, 1), (135, .getfield 15, 3), (138, .iconst 1, 1), (139, .iadd, 1), (140, .putfield 15, 3), (143, .aload_n 0, 1), (144, .dup, 1), (145, .getfield 19, 3), (148, .iconst 1, 1), (149, .iadd, 1), (150, .putfield 19, 3), (153, .iconst 1, 1), (154, .ireturn, 1)]]
theorem zo_80 : zd_of 80 = some zI_80 := rfl
set_option maxRecDepth 100000 in
theorem zq_80 : zt_m[80]? = some (⟨"ColumnVault$FilterReader", "readValue", "(I)Z"⟩, prog_3_method_13_code, 6, some (.boolean), [], 3, 1, 0, 0, 0, 0) := rfl
set_option maxHeartbeats 1000000 in
def f_FilterReader_readValue_106 (p0 : Nat) (p1 : Int32) (p2 : Int32) (p3 : Int64) (p4 : Int32) (p5 : Int32) (h : zx_H) : Option (Int32 × zx_H) :=
  if p4 = p5 then
    zf_b (zf_A 3 2 p0 h) fun v1 =>
    zf_b (zf_I 3 3 p0 h) fun v2 =>
    zf_b2 (f_ColumnVault_keyOf p1 p3 h) fun v3 h4 =>
    zf_b (zf_stJ v1 v2 v3 h4) fun h5 =>
    zf_b (zf_I 3 3 p0 h5) fun v6 =>
    zf_b (zf_put 3 3 p0 (.int (v6 + (1 : Int32))) h5) fun h7 =>
    zf_b (zf_I 3 4 p0 h7) fun v8 =>
    zf_b (zf_put 3 4 p0 (.int (v8 + (1 : Int32))) h7) fun h9 =>
    some ((1 : Int32), h9)
  else
    zf_b (zf_is 3 p0 h) fun _ =>
    zf_b2 (f_FilterReader_fail p0 (3 : Int32) p2 h) fun v10 h11 =>
    some ((0 : Int32), h11)
set_option maxHeartbeats 4000000 in
set_option maxRecDepth 400000 in
theorem t_f_FilterReader_readValue_106 {sc : (Nat × (Nat → Int32)) × Bool} {d : Nat} (p0 : Nat) (p1 : Int32) (p2 : Int32) (p3 : Int64) (p4 : Int32) (p5 : Int32) (h : zx_H) (r : Int32) (h' : zx_H) (hf : f_FilterReader_readValue_106 p0 p1 p2 p3 p4 p5 h = some (r, h')) : zx_T sc (d + 1) 80 (106, [(0, .ref p0), (1, .int p1), (3, .int p2), (4, .long p3)], [.int p5, .int p4]) h (zf_oI r) h' := by
  unfold f_FilterReader_readValue_106 at hf
  replace hf := zf_ite hf
  obtain ⟨hc, hf⟩ | ⟨hc, hf⟩ := hf
  · refine zv_brT (off := 12) (tt := 118) (r := []) zq_80 zo_80 hc rfl rfl rfl ?_
    refine zv_p (k := 1) (f' := (119, [(0, .ref p0), (1, .int p1), (3, .int p2), (4, .long p3)], [.ref p0])) zq_80 zo_80 (by with_unfolding_all rfl) ?_
    replace hf := zf_be hf
    obtain ⟨v1, hv, hf⟩ := hf
    refine zv_gf zq_80 zo_80 rfl rfl rfl (zf_Ae hv) ?_
    refine zv_p (k := 1) (f' := (123, [(0, .ref p0), (1, .int p1), (3, .int p2), (4, .long p3)], [.ref p0, .ref v1])) zq_80 zo_80 (by with_unfolding_all rfl) ?_
    replace hf := zf_be hf
    obtain ⟨v2, hv, hf⟩ := hf
    refine zv_gf zq_80 zo_80 rfl rfl rfl (zf_Ie hv) ?_
    refine zv_p (k := 2) (f' := (129, [(0, .ref p0), (1, .int p1), (3, .int p2), (4, .long p3)], [.long p3, .int p1, .int v2, .ref v1])) zq_80 zo_80 (by with_unfolding_all rfl) ?_
    replace hf := zf_b2e hf
    obtain ⟨v3, h4, hv, hf⟩ := hf
    refine zv_c zq_80 zo_80 rfl rfl rfl rfl rfl rfl (t_f_ColumnVault_keyOf _ _ _ _ _ hv) ?_
    replace hf := zf_be hf
    obtain ⟨h5, hv, hf⟩ := hf
    refine zv_stJ zq_80 zo_80 rfl hv ?_
    refine zv_p (k := 2) (f' := (135, [(0, .ref p0), (1, .int p1), (3, .int p2), (4, .long p3)], [.ref p0, .ref p0])) zq_80 zo_80 (by with_unfolding_all rfl) ?_
    replace hf := zf_be hf
    obtain ⟨v6, hv, hf⟩ := hf
    refine zv_gf zq_80 zo_80 rfl rfl rfl (zf_Ie hv) ?_
    refine zv_p (k := 2) (f' := (140, [(0, .ref p0), (1, .int p1), (3, .int p2), (4, .long p3)], [.int (v6 + (1 : Int32)), .ref p0])) zq_80 zo_80 (by with_unfolding_all rfl) ?_
    replace hf := zf_be hf
    obtain ⟨h7, hv, hf⟩ := hf
    refine zv_pf zq_80 zo_80 rfl rfl rfl rfl hv ?_
    refine zv_p (k := 2) (f' := (145, [(0, .ref p0), (1, .int p1), (3, .int p2), (4, .long p3)], [.ref p0, .ref p0])) zq_80 zo_80 (by with_unfolding_all rfl) ?_
    replace hf := zf_be hf
    obtain ⟨v8, hv, hf⟩ := hf
    refine zv_gf zq_80 zo_80 rfl rfl rfl (zf_Ie hv) ?_
    refine zv_p (k := 2) (f' := (150, [(0, .ref p0), (1, .int p1), (3, .int p2), (4, .long p3)], [.int (v8 + (1 : Int32)), .ref p0])) zq_80 zo_80 (by with_unfolding_all rfl) ?_
    replace hf := zf_be hf
    obtain ⟨h9, hv, hf⟩ := hf
    refine zv_pf zq_80 zo_80 rfl rfl rfl rfl hv ?_
    refine zv_p (k := 1) (f' := (154, [(0, .ref p0), (1, .int p1), (3, .int p2), (4, .long p3)], [.int (1 : Int32)])) zq_80 zo_80 (by with_unfolding_all rfl) ?_
    cases hf
    exact zv_rn zq_80 zo_80 rfl rfl
  · refine zv_brF (off := 12) (tt := 118) (r := []) zq_80 zo_80 hc rfl rfl rfl ?_
    refine zv_p (k := 3) (f' := (112, [(0, .ref p0), (1, .int p1), (3, .int p2), (4, .long p3)], [.int p2, .int (3 : Int32), .ref p0])) zq_80 zo_80 (by with_unfolding_all rfl) ?_
    replace hf := zf_be hf
    obtain ⟨_, ho, hf⟩ := hf
    replace hf := zf_b2e hf
    obtain ⟨v10, h11, hv, hf⟩ := hf
    refine zv_c zq_80 zo_80 rfl rfl rfl rfl rfl (zv_cv rfl rfl rfl (zf_ise ho) rfl) (t_f_FilterReader_fail _ _ _ _ _ _ hv) ?_
    refine zv_p (k := 2) (f' := (117, [(0, .ref p0), (1, .int p1), (3, .int p2), (4, .long p3)], [.int (0 : Int32)])) zq_80 zo_80 (by cases v10 <;> with_unfolding_all rfl) ?_
    cases hf
    exact zv_rn zq_80 zo_80 rfl rfl
set_option maxHeartbeats 1000000 in
def f_FilterReader_readValue_58 (p0 : Nat) (p1 : Int32) (p2 : Int32) (p3 : Int32) (p4 : Int64) (h : zx_H) : Option (Int32 × zx_H) :=
  if p4 = (-9000000000 : Int64) then
    zf_b (zf_is 3 p0 h) fun _ =>
    zf_b2 (f_FilterReader_fail p0 (2 : Int32) p3 h) fun v1 h2 =>
    some ((0 : Int32), h2)
  else
    zf_b (zf_I 3 3 p0 h) fun v3 =>
    if v3 < (6 : Int32) then
      if ¬ p2 = (97 : Int32) then
        if ¬ p1 = (1 : Int32) then
          f_FilterReader_readValue_106 p0 p1 p3 p4 (0 : Int32) (0 : Int32) h
        else
          f_FilterReader_readValue_106 p0 p1 p3 p4 (0 : Int32) (1 : Int32) h
      else
        if ¬ p1 = (1 : Int32) then
          f_FilterReader_readValue_106 p0 p1 p3 p4 (1 : Int32) (0 : Int32) h
        else
          f_FilterReader_readValue_106 p0 p1 p3 p4 (1 : Int32) (1 : Int32) h
    else
      zf_b (zf_is 3 p0 h) fun _ =>
      zf_b2 (f_FilterReader_fail p0 (2 : Int32) p3 h) fun v4 h5 =>
      some ((0 : Int32), h5)
set_option maxHeartbeats 4000000 in
set_option maxRecDepth 400000 in
theorem t_f_FilterReader_readValue_58 {sc : (Nat × (Nat → Int32)) × Bool} {d : Nat} (p0 : Nat) (p1 : Int32) (p2 : Int32) (p3 : Int32) (p4 : Int64) (h : zx_H) (r : Int32) (h' : zx_H) (hf : f_FilterReader_readValue_58 p0 p1 p2 p3 p4 h = some (r, h')) : zx_T sc (d + 1) 80 (58, [(0, .ref p0), (1, .int p1), (2, .int p2), (3, .int p3), (4, .long p4)], []) h (zf_oI r) h' := by
  unfold f_FilterReader_readValue_58 at hf
  refine zv_p (k := 1) (f' := (60, [(0, .ref p0), (1, .int p1), (2, .int p2), (3, .int p3), (4, .long p4)], [.long p4])) zq_80 zo_80 (by with_unfolding_all rfl) ?_
  refine zv_lng zq_80 zo_80 rfl rfl ?_
  refine zv_p (k := 1) (f' := (64, [(0, .ref p0), (1, .int p1), (2, .int p2), (3, .int p3), (4, .long p4)], [.int (lg_cmp p4 (-9000000000 : Int64))])) zq_80 zo_80 (by with_unfolding_all rfl) ?_
  replace hf := zf_ite hf
  obtain ⟨hc, hf⟩ | ⟨hc, hf⟩ := hf
  · refine zv_brT (off := 12) (tt := 76) (r := []) zq_80 zo_80 (zl_eq.mpr hc) rfl rfl rfl ?_
    refine zv_p (k := 3) (f' := (79, [(0, .ref p0), (1, .int p1), (2, .int p2), (3, .int p3), (4, .long p4)], [.int p3, .int (2 : Int32), .ref p0])) zq_80 zo_80 (by with_unfolding_all rfl) ?_
    replace hf := zf_be hf
    obtain ⟨_, ho, hf⟩ := hf
    replace hf := zf_b2e hf
    obtain ⟨v1, h2, hv, hf⟩ := hf
    refine zv_c zq_80 zo_80 rfl rfl rfl rfl rfl (zv_cv rfl rfl rfl (zf_ise ho) rfl) (t_f_FilterReader_fail _ _ _ _ _ _ hv) ?_
    refine zv_p (k := 2) (f' := (84, [(0, .ref p0), (1, .int p1), (2, .int p2), (3, .int p3), (4, .long p4)], [.int (0 : Int32)])) zq_80 zo_80 (by cases v1 <;> with_unfolding_all rfl) ?_
    cases hf
    exact zv_rn zq_80 zo_80 rfl rfl
  · refine zv_brF (off := 12) (tt := 76) (r := []) zq_80 zo_80 (mt zl_eq.mp hc) rfl rfl rfl ?_
    refine zv_p (k := 1) (f' := (68, [(0, .ref p0), (1, .int p1), (2, .int p2), (3, .int p3), (4, .long p4)], [.ref p0])) zq_80 zo_80 (by with_unfolding_all rfl) ?_
    replace hf := zf_be hf
    obtain ⟨v3, hv, hf⟩ := hf
    refine zv_gf zq_80 zo_80 rfl rfl rfl (zf_Ie hv) ?_
    refine zv_p (k := 1) (f' := (73, [(0, .ref p0), (1, .int p1), (2, .int p2), (3, .int p3), (4, .long p4)], [.int (6 : Int32), .int v3])) zq_80 zo_80 (by with_unfolding_all rfl) ?_
    replace hf := zf_ite hf
    obtain ⟨hc, hf⟩ | ⟨hc, hf⟩ := hf
    · refine zv_brT (off := 12) (tt := 85) (r := []) zq_80 zo_80 hc rfl rfl rfl ?_
      refine zv_p (k := 2) (f' := (88, [(0, .ref p0), (1, .int p1), (2, .int p2), (3, .int p3), (4, .long p4)], [.int (97 : Int32), .int p2])) zq_80 zo_80 (by with_unfolding_all rfl) ?_
      replace hf := zf_ite hf
      obtain ⟨hc, hf⟩ | ⟨hc, hf⟩ := hf
      · refine zv_brT (off := 7) (tt := 95) (r := []) zq_80 zo_80 hc rfl rfl rfl ?_
        refine zv_p (k := 3) (f' := (98, [(0, .ref p0), (1, .int p1), (2, .int p2), (3, .int p3), (4, .long p4)], [.int (1 : Int32), .int p1, .int (0 : Int32)])) zq_80 zo_80 (by with_unfolding_all rfl) ?_
        replace hf := zf_ite hf
        obtain ⟨hc, hf⟩ | ⟨hc, hf⟩ := hf
        · refine zv_brT (off := 7) (tt := 105) (r := [.int (0 : Int32)]) zq_80 zo_80 hc rfl rfl rfl ?_
          refine zv_p (k := 1) (f' := (106, [(0, .ref p0), (1, .int p1), (2, .int p2), (3, .int p3), (4, .long p4)], [.int (0 : Int32), .int (0 : Int32)])) zq_80 zo_80 (by with_unfolding_all rfl) ?_
          refine zv_pick (lv' := [(0, .ref p0), (1, .int p1), (3, .int p3), (4, .long p4)]) [0, 1, 3, 4] rfl rfl ?_
          exact t_f_FilterReader_readValue_106 _ _ _ _ _ _ _ _ _ hf
        · refine zv_brF (off := 7) (tt := 105) (r := [.int (0 : Int32)]) zq_80 zo_80 hc rfl rfl rfl ?_
          refine zv_p (k := 2) (f' := (106, [(0, .ref p0), (1, .int p1), (2, .int p2), (3, .int p3), (4, .long p4)], [.int (1 : Int32), .int (0 : Int32)])) zq_80 zo_80 (by with_unfolding_all rfl) ?_
          refine zv_pick (lv' := [(0, .ref p0), (1, .int p1), (3, .int p3), (4, .long p4)]) [0, 1, 3, 4] rfl rfl ?_
          exact t_f_FilterReader_readValue_106 _ _ _ _ _ _ _ _ _ hf
      · refine zv_brF (off := 7) (tt := 95) (r := []) zq_80 zo_80 hc rfl rfl rfl ?_
        refine zv_p (k := 4) (f' := (98, [(0, .ref p0), (1, .int p1), (2, .int p2), (3, .int p3), (4, .long p4)], [.int (1 : Int32), .int p1, .int (1 : Int32)])) zq_80 zo_80 (by with_unfolding_all rfl) ?_
        replace hf := zf_ite hf
        obtain ⟨hc, hf⟩ | ⟨hc, hf⟩ := hf
        · refine zv_brT (off := 7) (tt := 105) (r := [.int (1 : Int32)]) zq_80 zo_80 hc rfl rfl rfl ?_
          refine zv_p (k := 1) (f' := (106, [(0, .ref p0), (1, .int p1), (2, .int p2), (3, .int p3), (4, .long p4)], [.int (0 : Int32), .int (1 : Int32)])) zq_80 zo_80 (by with_unfolding_all rfl) ?_
          refine zv_pick (lv' := [(0, .ref p0), (1, .int p1), (3, .int p3), (4, .long p4)]) [0, 1, 3, 4] rfl rfl ?_
          exact t_f_FilterReader_readValue_106 _ _ _ _ _ _ _ _ _ hf
        · refine zv_brF (off := 7) (tt := 105) (r := [.int (1 : Int32)]) zq_80 zo_80 hc rfl rfl rfl ?_
          refine zv_p (k := 2) (f' := (106, [(0, .ref p0), (1, .int p1), (2, .int p2), (3, .int p3), (4, .long p4)], [.int (1 : Int32), .int (1 : Int32)])) zq_80 zo_80 (by with_unfolding_all rfl) ?_
          refine zv_pick (lv' := [(0, .ref p0), (1, .int p1), (3, .int p3), (4, .long p4)]) [0, 1, 3, 4] rfl rfl ?_
          exact t_f_FilterReader_readValue_106 _ _ _ _ _ _ _ _ _ hf
    · refine zv_brF (off := 12) (tt := 85) (r := []) zq_80 zo_80 hc rfl rfl rfl ?_
      refine zv_p (k := 3) (f' := (79, [(0, .ref p0), (1, .int p1), (2, .int p2), (3, .int p3), (4, .long p4)], [.int p3, .int (2 : Int32), .ref p0])) zq_80 zo_80 (by with_unfolding_all rfl) ?_
      replace hf := zf_be hf
      obtain ⟨_, ho, hf⟩ := hf
      replace hf := zf_b2e hf
      obtain ⟨v4, h5, hv, hf⟩ := hf
      refine zv_c zq_80 zo_80 rfl rfl rfl rfl rfl (zv_cv rfl rfl rfl (zf_ise ho) rfl) (t_f_FilterReader_fail _ _ _ _ _ _ hv) ?_
      refine zv_p (k := 2) (f' := (84, [(0, .ref p0), (1, .int p1), (2, .int p2), (3, .int p3), (4, .long p4)], [.int (0 : Int32)])) zq_80 zo_80 (by cases v4 <;> with_unfolding_all rfl) ?_
      cases hf
      exact zv_rn zq_80 zo_80 rfl rfl
set_option maxHeartbeats 1000000 in
def f_FilterReader_readValue (p0 : Nat) (p1 : Int32) (h : zx_H) : Option (Int32 × zx_H) :=
  zf_b (zf_A 3 0 p0 h) fun v1 =>
  zf_b (zf_I 3 4 p0 h) fun v2 =>
  zf_b (zf_is 11 v1 h) fun _ =>
  zf_b2 (f_Tokens_formAt v1 v2 h) fun v3 h4 =>
  zf_b (zf_A 3 0 p0 h4) fun v5 =>
  zf_b (zf_I 3 4 p0 h4) fun v6 =>
  zf_b (zf_is 11 v5 h4) fun _ =>
  zf_b2 (f_Tokens_placeAt v5 v6 h4) fun v7 h8 =>
  zf_b (zf_A 3 0 p0 h8) fun v9 =>
  zf_b (zf_I 3 4 p0 h8) fun v10 =>
  zf_b (zf_is 11 v9 h8) fun _ =>
  zf_b2 (f_Tokens_valueAt v9 v10 h8) fun v11 h12 =>
  if v3 = (97 : Int32) then
    f_FilterReader_readValue_58 p0 p1 v3 v7 v11 h12
  else
    if v3 = (48 : Int32) then
      f_FilterReader_readValue_58 p0 p1 v3 v7 v11 h12
    else
      zf_b (zf_is 3 p0 h12) fun _ =>
      zf_b2 (f_FilterReader_fail p0 (1 : Int32) v7 h12) fun v13 h14 =>
      some ((0 : Int32), h14)
set_option maxHeartbeats 4000000 in
set_option maxRecDepth 400000 in
theorem t_f_FilterReader_readValue {sc : (Nat × (Nat → Int32)) × Bool} {d : Nat} (p0 : Nat) (p1 : Int32) (h : zx_H) (r : Int32) (h' : zx_H) (hf : f_FilterReader_readValue p0 p1 h = some (r, h')) : zx_T sc (d + 1) 80 (0, [(0, .ref p0), (1, .int p1)], []) h (zf_oI r) h' := by
  unfold f_FilterReader_readValue at hf
  refine zv_p (k := 1) (f' := (1, [(0, .ref p0), (1, .int p1)], [.ref p0])) zq_80 zo_80 (by with_unfolding_all rfl) ?_
  replace hf := zf_be hf
  obtain ⟨v1, hv, hf⟩ := hf
  refine zv_gf zq_80 zo_80 rfl rfl rfl (zf_Ae hv) ?_
  refine zv_p (k := 1) (f' := (5, [(0, .ref p0), (1, .int p1)], [.ref p0, .ref v1])) zq_80 zo_80 (by with_unfolding_all rfl) ?_
  replace hf := zf_be hf
  obtain ⟨v2, hv, hf⟩ := hf
  refine zv_gf zq_80 zo_80 rfl rfl rfl (zf_Ie hv) ?_
  replace hf := zf_be hf
  obtain ⟨_, ho, hf⟩ := hf
  replace hf := zf_b2e hf
  obtain ⟨v3, h4, hv, hf⟩ := hf
  refine zv_c zq_80 zo_80 rfl rfl rfl rfl rfl (zv_cv rfl rfl rfl (zf_ise ho) rfl) (t_f_Tokens_formAt _ _ _ _ _ hv) ?_
  refine zv_p (k := 2) (f' := (13, [(2, .int v3), (0, .ref p0), (1, .int p1)], [.ref p0])) zq_80 zo_80 (by with_unfolding_all rfl) ?_
  replace hf := zf_be hf
  obtain ⟨v5, hv, hf⟩ := hf
  refine zv_gf zq_80 zo_80 rfl rfl rfl (zf_Ae hv) ?_
  refine zv_p (k := 1) (f' := (17, [(2, .int v3), (0, .ref p0), (1, .int p1)], [.ref p0, .ref v5])) zq_80 zo_80 (by with_unfolding_all rfl) ?_
  replace hf := zf_be hf
  obtain ⟨v6, hv, hf⟩ := hf
  refine zv_gf zq_80 zo_80 rfl rfl rfl (zf_Ie hv) ?_
  replace hf := zf_be hf
  obtain ⟨_, ho, hf⟩ := hf
  replace hf := zf_b2e hf
  obtain ⟨v7, h8, hv, hf⟩ := hf
  refine zv_c zq_80 zo_80 rfl rfl rfl rfl rfl (zv_cv rfl rfl rfl (zf_ise ho) rfl) (t_f_Tokens_placeAt _ _ _ _ _ hv) ?_
  refine zv_p (k := 2) (f' := (25, [(3, .int v7), (2, .int v3), (0, .ref p0), (1, .int p1)], [.ref p0])) zq_80 zo_80 (by with_unfolding_all rfl) ?_
  replace hf := zf_be hf
  obtain ⟨v9, hv, hf⟩ := hf
  refine zv_gf zq_80 zo_80 rfl rfl rfl (zf_Ae hv) ?_
  refine zv_p (k := 1) (f' := (29, [(3, .int v7), (2, .int v3), (0, .ref p0), (1, .int p1)], [.ref p0, .ref v9])) zq_80 zo_80 (by with_unfolding_all rfl) ?_
  replace hf := zf_be hf
  obtain ⟨v10, hv, hf⟩ := hf
  refine zv_gf zq_80 zo_80 rfl rfl rfl (zf_Ie hv) ?_
  replace hf := zf_be hf
  obtain ⟨_, ho, hf⟩ := hf
  replace hf := zf_b2e hf
  obtain ⟨v11, h12, hv, hf⟩ := hf
  refine zv_c zq_80 zo_80 rfl rfl rfl rfl rfl (zv_cv rfl rfl rfl (zf_ise ho) rfl) (t_f_Tokens_valueAt _ _ _ _ _ hv) ?_
  refine zv_p (k := 3) (f' := (40, [(4, .long v11), (3, .int v7), (2, .int v3), (0, .ref p0), (1, .int p1)], [.int (97 : Int32), .int v3])) zq_80 zo_80 (by with_unfolding_all rfl) ?_
  replace hf := zf_ite hf
  obtain ⟨hc, hf⟩ | ⟨hc, hf⟩ := hf
  · refine zv_brT (off := 18) (tt := 58) (r := []) zq_80 zo_80 hc rfl rfl rfl ?_
    refine zv_pick (lv' := [(0, .ref p0), (1, .int p1), (2, .int v3), (3, .int v7), (4, .long v11)]) [0, 1, 2, 3, 4] rfl rfl ?_
    exact t_f_FilterReader_readValue_58 _ _ _ _ _ _ _ _ hf
  · refine zv_brF (off := 18) (tt := 58) (r := []) zq_80 zo_80 hc rfl rfl rfl ?_
    refine zv_p (k := 2) (f' := (46, [(4, .long v11), (3, .int v7), (2, .int v3), (0, .ref p0), (1, .int p1)], [.int (48 : Int32), .int v3])) zq_80 zo_80 (by with_unfolding_all rfl) ?_
    replace hf := zf_ite hf
    obtain ⟨hc, hf⟩ | ⟨hc, hf⟩ := hf
    · refine zv_brT (off := 12) (tt := 58) (r := []) zq_80 zo_80 hc rfl rfl rfl ?_
      refine zv_pick (lv' := [(0, .ref p0), (1, .int p1), (2, .int v3), (3, .int v7), (4, .long v11)]) [0, 1, 2, 3, 4] rfl rfl ?_
      exact t_f_FilterReader_readValue_58 _ _ _ _ _ _ _ _ hf
    · refine zv_brF (off := 12) (tt := 58) (r := []) zq_80 zo_80 hc rfl rfl rfl ?_
      refine zv_p (k := 3) (f' := (52, [(4, .long v11), (3, .int v7), (2, .int v3), (0, .ref p0), (1, .int p1)], [.int v7, .int (1 : Int32), .ref p0])) zq_80 zo_80 (by with_unfolding_all rfl) ?_
      replace hf := zf_be hf
      obtain ⟨_, ho, hf⟩ := hf
      replace hf := zf_b2e hf
      obtain ⟨v13, h14, hv, hf⟩ := hf
      refine zv_c zq_80 zo_80 rfl rfl rfl rfl rfl (zv_cv rfl rfl rfl (zf_ise ho) rfl) (t_f_FilterReader_fail _ _ _ _ _ _ hv) ?_
      refine zv_p (k := 2) (f' := (57, [(4, .long v11), (3, .int v7), (2, .int v3), (0, .ref p0), (1, .int p1)], [.int (0 : Int32)])) zq_80 zo_80 (by cases v13 <;> with_unfolding_all rfl) ?_
      cases hf
      exact zv_rn zq_80 zo_80 rfl rfl
