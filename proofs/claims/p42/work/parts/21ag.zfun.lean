set_option maxHeartbeats 1000000 in
def f_ColumnVault_get (p0 : Nat) (p1 : Int32) (p2 : Int32) (p3 : Int32) (h : zx_H) : Option ((Int64 ⊕ Nat) × zx_H) :=
  zf_b (zf_is 12 p0 h) fun _ =>
  zf_b3 (f_ColumnVault_sheetWith p0 p1 p3 h) fun v1 h2 =>
  zf_b3 (f_ColumnVault_requireRow v1 p2 h2) fun _ h5 =>
  zf_b (zf_is 10 v1 h5) fun _ =>
  zf_b2 (f_Sheet_valueOf v1 p3 p2 h5) fun v7 h8 =>
  some (.inl v7, h8)
set_option maxHeartbeats 4000000 in
set_option maxRecDepth 400000 in
theorem t_f_ColumnVault_get {sc : (Nat × (Nat → Int32)) × Bool} {d : Nat} (p0 : Nat) (p1 : Int32) (p2 : Int32) (p3 : Int32) (h : zx_H) (r : (Int64 ⊕ Nat)) (h' : zx_H) (hf : f_ColumnVault_get p0 p1 p2 p3 h = some (r, h')) : zx_T sc (d + 3) 43 (0, [(0, .ref p0), (1, .int p1), (2, .int p2), (3, .int p3)], []) h (zf_oJx r) h' := by
  unfold f_ColumnVault_get at hf
  refine zv_p (k := 3) (f' := (3, [(0, .ref p0), (1, .int p1), (2, .int p2), (3, .int p3)], [.int p3, .int p1, .ref p0])) zq_43 zo_43 (by with_unfolding_all rfl) ?_
  replace hf := zf_be hf
  obtain ⟨_, ho, hf⟩ := hf
  replace hf := zf_b3e hf
  obtain ⟨v1, h2, hv, hf⟩ | ⟨E3, h2, hv, hf⟩ := hf
  rotate_left
  · cases hf; exact zv_cx zq_43 zo_43 rfl rfl rfl rfl rfl (zv_cv rfl rfl rfl (zf_ise ho) rfl) (t_f_ColumnVault_sheetWith _ _ _ _ _ _ hv) rfl
  refine zv_c zq_43 zo_43 rfl rfl rfl rfl rfl (zv_cv rfl rfl rfl (zf_ise ho) rfl) (t_f_ColumnVault_sheetWith _ _ _ _ _ _ hv) ?_
  refine zv_p (k := 3) (f' := (11, [(4, .ref v1), (0, .ref p0), (1, .int p1), (2, .int p2), (3, .int p3)], [.int p2, .ref v1])) zq_43 zo_43 (by with_unfolding_all rfl) ?_
  replace hf := zf_b3e hf
  obtain ⟨v4, h5, hv, hf⟩ | ⟨E6, h5, hv, hf⟩ := hf
  rotate_left
  · cases hf; exact zv_cx zq_43 zo_43 rfl rfl rfl rfl rfl rfl (t_f_ColumnVault_requireRow _ _ _ _ _ hv) rfl
  refine zv_c zq_43 zo_43 rfl rfl rfl rfl rfl rfl (t_f_ColumnVault_requireRow _ _ _ _ _ hv) ?_
  refine zv_p (k := 3) (f' := (18, [(4, .ref v1), (0, .ref p0), (1, .int p1), (2, .int p2), (3, .int p3)], [.int p2, .int p3, .ref v1])) zq_43 zo_43 (by with_unfolding_all rfl) ?_
  replace hf := zf_be hf
  obtain ⟨_, ho, hf⟩ := hf
  replace hf := zf_b2e hf
  obtain ⟨v7, h8, hv, hf⟩ := hf
  refine zv_c zq_43 zo_43 rfl rfl rfl rfl rfl (zv_cv rfl rfl rfl (zf_ise ho) rfl) (t_f_Sheet_valueOf _ _ _ _ _ _ hv) ?_
  cases hf
  exact zv_r zq_43 zo_43 rfl rfl rfl rfl rfl
/-! ColumnVault$History.keeps (I)Z -/
noncomputable def zI_47 : zd_T := [[(0, .iload_n 1, 1), (1, .ifCond .lt 26, 3), (4, .iload_n 1, 1), (5, .aload_n 0, 1), (6, .getfield 17, 3), (9, .if_icmp .gt 18, 3), (12, .iload_n 1, 1), (13, .aload_n 0, 1), (14, .getfield 17, 3), (17, .bipush 12, 2), (19, .isub, 1), (20, .if_icmp .le 7, 3), (23, .iconst 1, 1), (24, .goto 4, 3), (27, .iconst 0, 1), (28, .ireturn, 1)]]
theorem zo_47 : zd_of 47 = some zI_47 := rfl
set_option maxRecDepth 100000 in
theorem zq_47 : zt_m[47]? = some (⟨"ColumnVault$History", "keeps", "(I)Z"⟩, prog_6_method_2_code, 2, some (.boolean), [], 6, 1, 0, 0, 0, 0) := rfl
set_option maxHeartbeats 1000000 in
def f_History_keeps (p0 : Nat) (p1 : Int32) (h : zx_H) : Option (Int32 × zx_H) :=
  if p1 < 0 then
    some ((0 : Int32), h)
  else
    zf_b (zf_I 6 1 p0 h) fun v1 =>
    if v1 < p1 then
      some ((0 : Int32), h)
    else
      zf_b (zf_I 6 1 p0 h) fun v2 =>
      if p1 ≤ (v2 - (12 : Int32)) then
        some ((0 : Int32), h)
      else
        some ((1 : Int32), h)
set_option maxHeartbeats 4000000 in
set_option maxRecDepth 400000 in
theorem t_f_History_keeps {sc : (Nat × (Nat → Int32)) × Bool} {d : Nat} (p0 : Nat) (p1 : Int32) (h : zx_H) (r : Int32) (h' : zx_H) (hf : f_History_keeps p0 p1 h = some (r, h')) : zx_T sc d 47 (0, [(0, .ref p0), (1, .int p1)], []) h (zf_oI r) h' := by
  unfold f_History_keeps at hf
  refine zv_p (k := 1) (f' := (1, [(0, .ref p0), (1, .int p1)], [.int p1])) zq_47 zo_47 (by with_unfolding_all rfl) ?_
  replace hf := zf_ite hf
  obtain ⟨hc, hf⟩ | ⟨hc, hf⟩ := hf
  · refine zv_brT (off := 26) (tt := 27) (r := []) zq_47 zo_47 hc rfl rfl rfl ?_
    refine zv_p (k := 1) (f' := (28, [(0, .ref p0), (1, .int p1)], [.int (0 : Int32)])) zq_47 zo_47 (by with_unfolding_all rfl) ?_
    cases hf
    exact zv_rn zq_47 zo_47 rfl rfl
  · refine zv_brF (off := 26) (tt := 27) (r := []) zq_47 zo_47 hc rfl rfl rfl ?_
    refine zv_p (k := 2) (f' := (6, [(0, .ref p0), (1, .int p1)], [.ref p0, .int p1])) zq_47 zo_47 (by with_unfolding_all rfl) ?_
    replace hf := zf_be hf
    obtain ⟨v1, hv, hf⟩ := hf
    refine zv_gf zq_47 zo_47 rfl rfl rfl (zf_Ie hv) ?_
    replace hf := zf_ite hf
    obtain ⟨hc, hf⟩ | ⟨hc, hf⟩ := hf
    · refine zv_brT (off := 18) (tt := 27) (r := []) zq_47 zo_47 hc rfl rfl rfl ?_
      refine zv_p (k := 1) (f' := (28, [(0, .ref p0), (1, .int p1)], [.int (0 : Int32)])) zq_47 zo_47 (by with_unfolding_all rfl) ?_
      cases hf
      exact zv_rn zq_47 zo_47 rfl rfl
    · refine zv_brF (off := 18) (tt := 27) (r := []) zq_47 zo_47 hc rfl rfl rfl ?_
      refine zv_p (k := 2) (f' := (14, [(0, .ref p0), (1, .int p1)], [.ref p0, .int p1])) zq_47 zo_47 (by with_unfolding_all rfl) ?_
      replace hf := zf_be hf
      obtain ⟨v2, hv, hf⟩ := hf
      refine zv_gf zq_47 zo_47 rfl rfl rfl (zf_Ie hv) ?_
      refine zv_p (k := 2) (f' := (20, [(0, .ref p0), (1, .int p1)], [.int (v2 - (12 : Int32)), .int p1])) zq_47 zo_47 (by with_unfolding_all rfl) ?_
      replace hf := zf_ite hf
      obtain ⟨hc, hf⟩ | ⟨hc, hf⟩ := hf
      · refine zv_brT (off := 7) (tt := 27) (r := []) zq_47 zo_47 hc rfl rfl rfl ?_
        refine zv_p (k := 1) (f' := (28, [(0, .ref p0), (1, .int p1)], [.int (0 : Int32)])) zq_47 zo_47 (by with_unfolding_all rfl) ?_
        cases hf
        exact zv_rn zq_47 zo_47 rfl rfl
      · refine zv_brF (off := 7) (tt := 27) (r := []) zq_47 zo_47 hc rfl rfl rfl ?_
        refine zv_p (k := 2) (f' := (28, [(0, .ref p0), (1, .int p1)], [.int (1 : Int32)])) zq_47 zo_47 (by with_unfolding_all rfl) ?_
        cases hf
        exact zv_rn zq_47 zo_47 rfl rfl
/-! ColumnVault.back (I)I -/
noncomputable def zI_46 : zd_T := [[(0, .aload_n 0, 1), (1, .getfield 14, 3), (4, .iload_n 1, 1), (5, .invokevirtual 149, 3), (8, .ifCond .ne 13, 3), (11, .new 153, 3), (14, .dup, 1), (15, .ldc 155, 2), (17, .invokespecial 157, 3), (20, .athrow, 1), (21, .aload_n 0, 1), (22, .getfield 14, 3), (25, .iload_n 1, 1), (26, .invokevirtual 158, 3), (29, .aload_n 0, 1), (30, .getfield 14, 3)], [(33, .getfield 146, 3), (36, .ireturn, 1)]]
theorem zo_46 : zd_of 46 = some zI_46 := rfl
set_option maxRecDepth 100000 in
theorem zq_46 : zt_m[46]? = some (⟨"ColumnVault", "back", "(I)I"⟩, prog_1_method_11_code, 2, some (.int), [], 12, 1, 0, 0, 0, 0) := rfl
set_option maxHeartbeats 1000000 in
def f_ColumnVault_back (p0 : Nat) (p1 : Int32) (h : zx_H) : Option ((Int32 ⊕ Nat) × zx_H) :=
  zf_b (zf_A 12 0 p0 h) fun v1 =>
  zf_b (zf_is 6 v1 h) fun _ =>
  zf_b2 (f_History_keeps v1 p1 h) fun v2 h3 =>
  if ¬ v2 = 0 then
    zf_b (zf_A 12 0 p0 h3) fun v4 =>
    zf_b (zf_is 6 v4 h3) fun _ =>
    zf_b2 (f_History_makeNextFrom v4 p1 h3) fun _ h6 =>
    zf_b (zf_A 12 0 p0 h6) fun v7 =>
    zf_b (zf_I 6 1 v7 h6) fun v8 =>
    some (.inl v8, h6)
  else
    if h3.length < zx_lim then some (.inr 13, h3 ++ [.inr (13, [])]) else none
set_option maxHeartbeats 4000000 in
set_option maxRecDepth 400000 in
theorem t_f_ColumnVault_back {sc : (Nat × (Nat → Int32)) × Bool} {d : Nat} (p0 : Nat) (p1 : Int32) (h : zx_H) (r : (Int32 ⊕ Nat)) (h' : zx_H) (hf : f_ColumnVault_back p0 p1 h = some (r, h')) : zx_T sc (d + 2) 46 (0, [(0, .ref p0), (1, .int p1)], []) h (zf_oIx r) h' := by
  unfold f_ColumnVault_back at hf
  refine zv_p (k := 1) (f' := (1, [(0, .ref p0), (1, .int p1)], [.ref p0])) zq_46 zo_46 (by with_unfolding_all rfl) ?_
  replace hf := zf_be hf
  obtain ⟨v1, hv, hf⟩ := hf
  refine zv_gf zq_46 zo_46 rfl rfl rfl (zf_Ae hv) ?_
  refine zv_p (k := 1) (f' := (5, [(0, .ref p0), (1, .int p1)], [.int p1, .ref v1])) zq_46 zo_46 (by with_unfolding_all rfl) ?_
  replace hf := zf_be hf
  obtain ⟨_, ho, hf⟩ := hf
  replace hf := zf_b2e hf
  obtain ⟨v2, h3, hv, hf⟩ := hf
  refine zv_c zq_46 zo_46 rfl rfl rfl rfl rfl (zv_cv rfl rfl rfl (zf_ise ho) rfl) (t_f_History_keeps _ _ _ _ _ hv) ?_
  replace hf := zf_ite hf
  obtain ⟨hc, hf⟩ | ⟨hc, hf⟩ := hf
  · refine zv_brT (off := 13) (tt := 21) (r := []) zq_46 zo_46 hc rfl rfl rfl ?_
    refine zv_p (k := 1) (f' := (22, [(0, .ref p0), (1, .int p1)], [.ref p0])) zq_46 zo_46 (by with_unfolding_all rfl) ?_
    replace hf := zf_be hf
    obtain ⟨v4, hv, hf⟩ := hf
    refine zv_gf zq_46 zo_46 rfl rfl rfl (zf_Ae hv) ?_
    refine zv_p (k := 1) (f' := (26, [(0, .ref p0), (1, .int p1)], [.int p1, .ref v4])) zq_46 zo_46 (by with_unfolding_all rfl) ?_
    replace hf := zf_be hf
    obtain ⟨_, ho, hf⟩ := hf
    replace hf := zf_b2e hf
    obtain ⟨v5, h6, hv, hf⟩ := hf
    refine zv_c zq_46 zo_46 rfl rfl rfl rfl rfl (zv_cv rfl rfl rfl (zf_ise ho) rfl) (t_f_History_makeNextFrom _ _ _ _ _ hv) ?_
    refine zv_p (k := 1) (f' := (30, [(0, .ref p0), (1, .int p1)], [.ref p0])) zq_46 zo_46 (by with_unfolding_all rfl) ?_
    replace hf := zf_be hf
    obtain ⟨v7, hv, hf⟩ := hf
    refine zv_gf zq_46 zo_46 rfl rfl rfl (zf_Ae hv) ?_
    replace hf := zf_be hf
    obtain ⟨v8, hv, hf⟩ := hf
    refine zv_gf zq_46 zo_46 rfl rfl rfl (zf_Ie hv) ?_
    cases hf
    exact zv_rn zq_46 zo_46 rfl rfl
  · refine zv_brF (off := 13) (tt := 21) (r := []) zq_46 zo_46 hc rfl rfl rfl ?_
    replace hf := zf_ite hf
    obtain ⟨hc, hf⟩ | ⟨hc, hf⟩ := hf
    · cases hf; exact zv_t zq_46 zo_46 rfl rfl rfl rfl rfl rfl rfl rfl rfl hc
    · cases hf
/-! ColumnVault.requirePlace (LColumnVault$Sheet;I)V -/
noncomputable def zI_49 : zd_T := [[(0, .aload_n 0, 1), (1, .iload_n 1, 1), (2, .invokevirtual 373, 3), (5, .ifCond .ne 14, 3), (8, .new 153, 3), (11, .dup, 1), (12, .ldc_w 378, 3), (15, .invokespecial 157, 3), (18, .athrow, 1), (19, .return_, 1)]]
theorem zo_49 : zd_of 49 = some zI_49 := rfl
set_option maxRecDepth 100000 in
theorem zq_49 : zt_m[49]? = some (⟨"ColumnVault", "requirePlace", "(LColumnVault$Sheet;I)V"⟩, prog_1_method_49_code, 2, none, [], 12, 2, 0, 1, 99999, 0) := rfl
set_option maxHeartbeats 1000000 in
def f_ColumnVault_requirePlace (p0 : Nat) (p1 : Int32) (h : zx_H) : Option ((Unit ⊕ Nat) × zx_H) :=
  zf_b (zf_is 10 p0 h) fun _ =>
  zf_b2 (f_Sheet_hasRow p0 p1 h) fun v1 h2 =>
  if ¬ v1 = 0 then
    some (.inl (), h2)
  else
    if h2.length < zx_lim then some (.inr 13, h2 ++ [.inr (13, [])]) else none
set_option maxHeartbeats 4000000 in
set_option maxRecDepth 400000 in
theorem t_f_ColumnVault_requirePlace {sc : (Nat × (Nat → Int32)) × Bool} {d : Nat} (p0 : Nat) (p1 : Int32) (h : zx_H) (r : (Unit ⊕ Nat)) (h' : zx_H) (hf : f_ColumnVault_requirePlace p0 p1 h = some (r, h')) : zx_T sc (d + 1) 49 (0, [(0, .ref p0), (1, .int p1)], []) h (zf_oVx r) h' := by
  unfold f_ColumnVault_requirePlace at hf
  refine zv_p (k := 2) (f' := (2, [(0, .ref p0), (1, .int p1)], [.int p1, .ref p0])) zq_49 zo_49 (by with_unfolding_all rfl) ?_
  replace hf := zf_be hf
  obtain ⟨_, ho, hf⟩ := hf
  replace hf := zf_b2e hf
  obtain ⟨v1, h2, hv, hf⟩ := hf
  refine zv_c zq_49 zo_49 rfl rfl rfl rfl rfl (zv_cv rfl rfl rfl (zf_ise ho) rfl) (t_f_Sheet_hasRow _ _ _ _ _ hv) ?_
  replace hf := zf_ite hf
  obtain ⟨hc, hf⟩ | ⟨hc, hf⟩ := hf
  · refine zv_brT (off := 14) (tt := 19) (r := []) zq_49 zo_49 hc rfl rfl rfl ?_
    cases hf
    exact zv_r zq_49 zo_49 rfl rfl rfl rfl rfl
  · refine zv_brF (off := 14) (tt := 19) (r := []) zq_49 zo_49 hc rfl rfl rfl ?_
    replace hf := zf_ite hf
    obtain ⟨hc, hf⟩ | ⟨hc, hf⟩ := hf
    · cases hf; exact zv_tw zq_49 zo_49 rfl rfl rfl rfl rfl rfl rfl rfl rfl hc
    · cases hf
/-! ColumnVault$Sheet.rowInOrder (I)I -/
noncomputable def zI_50 : zd_T := [[(0, .aload_n 0, 1), (1, .iload_n 1, 1), (2, .invokevirtual 49, 3), (5, .ifCond .eq 12, 3), (8, .aload_n 0, 1), (9, .getfield 19, 3), (12, .iload_n 1, 1), (13, .iaload, 1), (14, .goto 4, 3), (17, .iconst (-1), 1), (18, .ireturn, 1)]]
theorem zo_50 : zd_of 50 = some zI_50 := rfl
set_option maxRecDepth 100000 in
theorem zq_50 : zt_m[50]? = some (⟨"ColumnVault$Sheet", "rowInOrder", "(I)I"⟩, prog_10_method_15_code, 2, some (.int), [], 10, 1, 0, 0, 0, 0) := rfl
set_option maxHeartbeats 1000000 in
def f_Sheet_rowInOrder (p0 : Nat) (p1 : Int32) (h : zx_H) : Option (Int32 × zx_H) :=
  zf_b (zf_is 10 p0 h) fun _ =>
  zf_b2 (f_Sheet_hasRow p0 p1 h) fun v1 h2 =>
  if v1 = 0 then
    some ((-1 : Int32), h2)
  else
    zf_b (zf_A 10 2 p0 h2) fun v3 =>
    zf_b (zf_ldI v3 p1 h2) fun v4 =>
    some (v4, h2)
set_option maxHeartbeats 4000000 in
set_option maxRecDepth 400000 in
theorem t_f_Sheet_rowInOrder {sc : (Nat × (Nat → Int32)) × Bool} {d : Nat} (p0 : Nat) (p1 : Int32) (h : zx_H) (r : Int32) (h' : zx_H) (hf : f_Sheet_rowInOrder p0 p1 h = some (r, h')) : zx_T sc (d + 1) 50 (0, [(0, .ref p0), (1, .int p1)], []) h (zf_oI r) h' := by
  unfold f_Sheet_rowInOrder at hf
  refine zv_p (k := 2) (f' := (2, [(0, .ref p0), (1, .int p1)], [.int p1, .ref p0])) zq_50 zo_50 (by with_unfolding_all rfl) ?_
  replace hf := zf_be hf
  obtain ⟨_, ho, hf⟩ := hf
  replace hf := zf_b2e hf
  obtain ⟨v1, h2, hv, hf⟩ := hf
  refine zv_c zq_50 zo_50 rfl rfl rfl rfl rfl (zv_cv rfl rfl rfl (zf_ise ho) rfl) (t_f_Sheet_hasRow _ _ _ _ _ hv) ?_
  replace hf := zf_ite hf
  obtain ⟨hc, hf⟩ | ⟨hc, hf⟩ := hf
  · refine zv_brT (off := 12) (tt := 17) (r := []) zq_50 zo_50 hc rfl rfl rfl ?_
    refine zv_p (k := 1) (f' := (18, [(0, .ref p0), (1, .int p1)], [.int (-1 : Int32)])) zq_50 zo_50 (by with_unfolding_all rfl) ?_
    cases hf
    exact zv_rn zq_50 zo_50 rfl rfl
  · refine zv_brF (off := 12) (tt := 17) (r := []) zq_50 zo_50 hc rfl rfl rfl ?_
    refine zv_p (k := 1) (f' := (9, [(0, .ref p0), (1, .int p1)], [.ref p0])) zq_50 zo_50 (by with_unfolding_all rfl) ?_
    replace hf := zf_be hf
    obtain ⟨v3, hv, hf⟩ := hf
    refine zv_gf zq_50 zo_50 rfl rfl rfl (zf_Ae hv) ?_
    refine zv_p (k := 1) (f' := (13, [(0, .ref p0), (1, .int p1)], [.int p1, .ref v3])) zq_50 zo_50 (by with_unfolding_all rfl) ?_
    replace hf := zf_be hf
    obtain ⟨v4, hv, hf⟩ := hf
    refine zv_ldI zq_50 zo_50 rfl hv ?_
    refine zv_p (k := 1) (f' := (18, [(0, .ref p0), (1, .int p1)], [.int v4])) zq_50 zo_50 (by with_unfolding_all rfl) ?_
    cases hf
    exact zv_rn zq_50 zo_50 rfl rfl
/-! ColumnVault.rowAt (II)I -/
noncomputable def zI_48 : zd_T := [[(0, .aload_n 0, 1), (1, .iload_n 1, 1), (2, .invokevirtual 53, 3), (5, .astore_n 3, 1), (6, .aload_n 3, 1), (7, .iload_n 2, 1), (8, .invokestatic 169, 3), (11, .aload_n 3, 1), (12, .iload_n 2, 1), (13, .invokevirtual 172, 3), (16, .ireturn, 1)]]
theorem zo_48 : zd_of 48 = some zI_48 := rfl
set_option maxRecDepth 100000 in
theorem zq_48 : zt_m[48]? = some (⟨"ColumnVault", "rowAt", "(II)I"⟩, prog_1_method_13_code, 4, some (.int), [], 12, 2, 0, 0, 0, 0) := rfl
set_option maxHeartbeats 1000000 in
def f_ColumnVault_rowAt (p0 : Nat) (p1 : Int32) (p2 : Int32) (h : zx_H) : Option ((Int32 ⊕ Nat) × zx_H) :=
  zf_b (zf_is 12 p0 h) fun _ =>
  zf_b3 (f_ColumnVault_sheetOf p0 p1 h) fun v1 h2 =>
  zf_b3 (f_ColumnVault_requirePlace v1 p2 h2) fun _ h5 =>
  zf_b (zf_is 10 v1 h5) fun _ =>
  zf_b2 (f_Sheet_rowInOrder v1 p2 h5) fun v7 h8 =>
  some (.inl v7, h8)
set_option maxHeartbeats 4000000 in
set_option maxRecDepth 400000 in
theorem t_f_ColumnVault_rowAt {sc : (Nat × (Nat → Int32)) × Bool} {d : Nat} (p0 : Nat) (p1 : Int32) (p2 : Int32) (h : zx_H) (r : (Int32 ⊕ Nat)) (h' : zx_H) (hf : f_ColumnVault_rowAt p0 p1 p2 h = some (r, h')) : zx_T sc (d + 2) 48 (0, [(0, .ref p0), (1, .int p1), (2, .int p2)], []) h (zf_oIx r) h' := by
  unfold f_ColumnVault_rowAt at hf
  refine zv_p (k := 2) (f' := (2, [(0, .ref p0), (1, .int p1), (2, .int p2)], [.int p1, .ref p0])) zq_48 zo_48 (by with_unfolding_all rfl) ?_
  replace hf := zf_be hf
  obtain ⟨_, ho, hf⟩ := hf
  replace hf := zf_b3e hf
  obtain ⟨v1, h2, hv, hf⟩ | ⟨E3, h2, hv, hf⟩ := hf
  rotate_left
  · cases hf; exact zv_cx zq_48 zo_48 rfl rfl rfl rfl rfl (zv_cv rfl rfl rfl (zf_ise ho) rfl) (t_f_ColumnVault_sheetOf _ _ _ _ _ hv) rfl
  refine zv_c zq_48 zo_48 rfl rfl rfl rfl rfl (zv_cv rfl rfl rfl (zf_ise ho) rfl) (t_f_ColumnVault_sheetOf _ _ _ _ _ hv) ?_
  refine zv_p (k := 3) (f' := (8, [(3, .ref v1), (0, .ref p0), (1, .int p1), (2, .int p2)], [.int p2, .ref v1])) zq_48 zo_48 (by with_unfolding_all rfl) ?_
  replace hf := zf_b3e hf
  obtain ⟨v4, h5, hv, hf⟩ | ⟨E6, h5, hv, hf⟩ := hf
  rotate_left
  · cases hf; exact zv_cx zq_48 zo_48 rfl rfl rfl rfl rfl rfl (t_f_ColumnVault_requirePlace _ _ _ _ _ hv) rfl
  refine zv_c zq_48 zo_48 rfl rfl rfl rfl rfl rfl (t_f_ColumnVault_requirePlace _ _ _ _ _ hv) ?_
  refine zv_p (k := 2) (f' := (13, [(3, .ref v1), (0, .ref p0), (1, .int p1), (2, .int p2)], [.int p2, .ref v1])) zq_48 zo_48 (by with_unfolding_all rfl) ?_
  replace hf := zf_be hf
  obtain ⟨_, ho, hf⟩ := hf
  replace hf := zf_b2e hf
  obtain ⟨v7, h8, hv, hf⟩ := hf
  refine zv_c zq_48 zo_48 rfl rfl rfl rfl rfl (zv_cv rfl rfl rfl (zf_ise ho) rfl) (t_f_Sheet_rowInOrder _ _ _ _ _ hv) ?_
  cases hf
  exact zv_rn zq_48 zo_48 rfl rfl
/-! ColumnVault$FilterReader.init (LColumnVault$Tokens;LColumnVault$Sheet;)V -/
noncomputable def zI_54 : zd_T := [[(0, .aload_n 0, 1), (1, .invokespecial 3, 3), (4, .aload_n 0, 1), (5, .bipush 6, 2), (7, .newarray .long, 2), (9, .putfield 9, 3), (12, .aload_n 0, 1), (13, .iconst 0, 1), (14, .putfield 15, 3), (17, .aload_n 0, 1), (18, .iconst 0, 1), (19, .putfield 19, 3), (22, .aload_n 0, 1), (23, .iconst 0, 1), (24, .putfield 22, 3), (27, .aload_n 0, 1), (28, .iconst (-1), 1), (29, .putfield 25, 3)], [(32, .aload_n 0, 1), (33, .aload_n 1, 1), (34, .putfield 28, 3), (37, .aload_n 0, 1), (38, .aload_n 2, 1), (39, .putfield 32, 3), (42, .return_, 1)]]
theorem zo_54 : zd_of 54 = some zI_54 := rfl
set_option maxRecDepth 100000 in
theorem zq_54 : zt_m[54]? = some (⟨"ColumnVault$FilterReader", "<init>", "(LColumnVault$Tokens;LColumnVault$Sheet;)V"⟩, prog_3_method_1_code, 3, none, [], 3, 2, 0, 2, 99999, 0) := rfl
set_option maxHeartbeats 1000000 in
def f_FilterReader_init (p0 : Nat) (p1 : Nat) (p2 : Nat) (h : zx_H) : Option (Unit × zx_H) :=
  zf_b2 (zf_newa .long 2 (6 : Int32) h) fun q1 h2 =>
  zf_b (zf_put 3 2 p0 (.ref q1) h2) fun h3 =>
  zf_b (zf_put 3 3 p0 (.int (0 : Int32)) h3) fun h4 =>
  zf_b (zf_put 3 4 p0 (.int (0 : Int32)) h4) fun h5 =>
  zf_b (zf_put 3 5 p0 (.int (0 : Int32)) h5) fun h6 =>
  zf_b (zf_put 3 6 p0 (.int (-1 : Int32)) h6) fun h7 =>
  zf_b (zf_put 3 0 p0 (.ref p1) h7) fun h8 =>
  zf_b (zf_put 3 1 p0 (.ref p2) h8) fun h9 =>
  some ((), h9)
set_option maxHeartbeats 4000000 in
set_option maxRecDepth 400000 in
theorem t_f_FilterReader_init {sc : (Nat × (Nat → Int32)) × Bool} {d : Nat} (p0 : Nat) (p1 : Nat) (p2 : Nat) (h : zx_H) (r : Unit) (h' : zx_H) (hf : f_FilterReader_init p0 p1 p2 h = some (r, h')) : zx_T sc d 54 (0, [(0, .ref p0), (1, .ref p1), (2, .ref p2)], []) h (zf_oV r) h' := by
  unfold f_FilterReader_init at hf
  refine zv_p (k := 1) (f' := (1, [(0, .ref p0), (1, .ref p1), (2, .ref p2)], [.ref p0])) zq_54 zo_54 (by with_unfolding_all rfl) ?_
  refine zv_oi zq_54 zo_54 rfl rfl rfl ?_
  refine zv_p (k := 2) (f' := (7, [(0, .ref p0), (1, .ref p1), (2, .ref p2)], [.int (6 : Int32), .ref p0])) zq_54 zo_54 (by with_unfolding_all rfl) ?_
  replace hf := zf_b2e hf
  obtain ⟨q1, h2, hv, hf⟩ := hf
  refine zv_newa zq_54 zo_54 rfl rfl hv ?_
  replace hf := zf_be hf
  obtain ⟨h3, hv, hf⟩ := hf
  refine zv_pf zq_54 zo_54 rfl rfl rfl rfl hv ?_
  refine zv_p (k := 2) (f' := (14, [(0, .ref p0), (1, .ref p1), (2, .ref p2)], [.int (0 : Int32), .ref p0])) zq_54 zo_54 (by with_unfolding_all rfl) ?_
  replace hf := zf_be hf
  obtain ⟨h4, hv, hf⟩ := hf
  refine zv_pf zq_54 zo_54 rfl rfl rfl rfl hv ?_
  refine zv_p (k := 2) (f' := (19, [(0, .ref p0), (1, .ref p1), (2, .ref p2)], [.int (0 : Int32), .ref p0])) zq_54 zo_54 (by with_unfolding_all rfl) ?_
  replace hf := zf_be hf
  obtain ⟨h5, hv, hf⟩ := hf
  refine zv_pf zq_54 zo_54 rfl rfl rfl rfl hv ?_
  refine zv_p (k := 2) (f' := (24, [(0, .ref p0), (1, .ref p1), (2, .ref p2)], [.int (0 : Int32), .ref p0])) zq_54 zo_54 (by with_unfolding_all rfl) ?_
  replace hf := zf_be hf
  obtain ⟨h6, hv, hf⟩ := hf
  refine zv_pf zq_54 zo_54 rfl rfl rfl rfl hv ?_
  refine zv_p (k := 2) (f' := (29, [(0, .ref p0), (1, .ref p1), (2, .ref p2)], [.int (-1 : Int32), .ref p0])) zq_54 zo_54 (by with_unfolding_all rfl) ?_
  replace hf := zf_be hf
  obtain ⟨h7, hv, hf⟩ := hf
  refine zv_pf zq_54 zo_54 rfl rfl rfl rfl hv ?_
  refine zv_p (k := 2) (f' := (34, [(0, .ref p0), (1, .ref p1), (2, .ref p2)], [.ref p1, .ref p0])) zq_54 zo_54 (by with_unfolding_all rfl) ?_
  replace hf := zf_be hf
  obtain ⟨h8, hv, hf⟩ := hf
  refine zv_pf zq_54 zo_54 rfl rfl rfl rfl hv ?_
  refine zv_p (k := 2) (f' := (39, [(0, .ref p0), (1, .ref p1), (2, .ref p2)], [.ref p2, .ref p0])) zq_54 zo_54 (by with_unfolding_all rfl) ?_
  replace hf := zf_be hf
  obtain ⟨h9, hv, hf⟩ := hf
  refine zv_pf zq_54 zo_54 rfl rfl rfl rfl hv ?_
  cases hf
  exact zv_r zq_54 zo_54 rfl rfl rfl rfl rfl
/-! ColumnVault.readerOf (I)LColumnVault$FilterReader; -/
noncomputable def zI_53 : zd_T := [[(0, .new 208, 3), (3, .dup, 1), (4, .aload_n 0, 1), (5, .getfield 28, 3), (8, .aload_n 0, 1), (9, .iload_n 1, 1), (10, .invokevirtual 53, 3), (13, .invokespecial 361, 3), (16, .areturn, 1)]]
theorem zo_53 : zd_of 53 = some zI_53 := rfl
set_option maxRecDepth 100000 in
theorem zq_53 : zt_m[53]? = some (⟨"ColumnVault", "readerOf", "(I)LColumnVault$FilterReader;"⟩, prog_1_method_44_code, 2, some (.object "ColumnVault$FilterReader"), [], 12, 1, 0, 0, 0, 0) := rfl
set_option maxHeartbeats 1000000 in
def f_ColumnVault_readerOf (p0 : Nat) (p1 : Int32) (h : zx_H) : Option ((Nat ⊕ Nat) × zx_H) :=
  zf_b2 (zf_new 3 h) fun q1 h2 =>
  zf_b (zf_A 12 2 p0 h2) fun v3 =>
  zf_b (zf_is 12 p0 h2) fun _ =>
  zf_b3 (f_ColumnVault_sheetOf p0 p1 h2) fun v4 h5 =>
  zf_b2 (f_FilterReader_init q1 v3 v4 h5) fun _ h8 =>
  some (.inl q1, h8)
set_option maxHeartbeats 4000000 in
set_option maxRecDepth 400000 in
theorem t_f_ColumnVault_readerOf {sc : (Nat × (Nat → Int32)) × Bool} {d : Nat} (p0 : Nat) (p1 : Int32) (h : zx_H) (r : (Nat ⊕ Nat)) (h' : zx_H) (hf : f_ColumnVault_readerOf p0 p1 h = some (r, h')) : zx_T sc (d + 2) 53 (0, [(0, .ref p0), (1, .int p1)], []) h (zf_oAx r) h' := by
  unfold f_ColumnVault_readerOf at hf
  replace hf := zf_b2e hf
  obtain ⟨q1, h2, hv, hf⟩ := hf
  refine zv_new zq_53 zo_53 rfl rfl rfl hv ?_
  refine zv_p (k := 2) (f' := (5, [(0, .ref p0), (1, .int p1)], [.ref p0, .ref q1, .ref q1])) zq_53 zo_53 (by with_unfolding_all rfl) ?_
  replace hf := zf_be hf
  obtain ⟨v3, hv, hf⟩ := hf
  refine zv_gf zq_53 zo_53 rfl rfl rfl (zf_Ae hv) ?_
  refine zv_p (k := 2) (f' := (10, [(0, .ref p0), (1, .int p1)], [.int p1, .ref p0, .ref v3, .ref q1, .ref q1])) zq_53 zo_53 (by with_unfolding_all rfl) ?_
  replace hf := zf_be hf
  obtain ⟨_, ho, hf⟩ := hf
  replace hf := zf_b3e hf
  obtain ⟨v4, h5, hv, hf⟩ | ⟨E6, h5, hv, hf⟩ := hf
  rotate_left
  · cases hf; exact zv_cx zq_53 zo_53 rfl rfl rfl rfl rfl (zv_cv rfl rfl rfl (zf_ise ho) rfl) (t_f_ColumnVault_sheetOf _ _ _ _ _ hv) rfl
  refine zv_c zq_53 zo_53 rfl rfl rfl rfl rfl (zv_cv rfl rfl rfl (zf_ise ho) rfl) (t_f_ColumnVault_sheetOf _ _ _ _ _ hv) ?_
  replace hf := zf_b2e hf
  obtain ⟨v7, h8, hv, hf⟩ := hf
  refine zv_c zq_53 zo_53 rfl rfl rfl rfl rfl rfl (t_f_FilterReader_init _ _ _ _ _ _ hv) ?_
  cases hf
  exact zv_r zq_53 zo_53 rfl rfl rfl rfl rfl
/-! ColumnVault$FilterText.byteAt (I)I -/
noncomputable def zI_57 : zd_T := [[(0, .iload_n 1, 1), (1, .ifCond .lt 20, 3), (4, .iload_n 1, 1), (5, .aload_n 0, 1), (6, .getfield 15, 3), (9, .if_icmp .ge 12, 3), (12, .aload_n 0, 1), (13, .getfield 9, 3), (16, .iload_n 1, 1), (17, .iaload, 1), (18, .goto 4, 3), (21, .iconst 0, 1), (22, .ireturn, 1)]]
theorem zo_57 : zd_of 57 = some zI_57 := rfl
set_option maxRecDepth 100000 in
theorem zq_57 : zt_m[57]? = some (⟨"ColumnVault$FilterText", "byteAt", "(I)I"⟩, prog_4_method_2_code, 2, some (.int), [], 4, 1, 0, 0, 0, 0) := rfl
set_option maxHeartbeats 1000000 in
def f_FilterText_byteAt (p0 : Nat) (p1 : Int32) (h : zx_H) : Option (Int32 × zx_H) :=
  if p1 < 0 then
    some ((0 : Int32), h)
  else
    zf_b (zf_I 4 1 p0 h) fun v1 =>
    if v1 ≤ p1 then
      some ((0 : Int32), h)
    else
      zf_b (zf_A 4 0 p0 h) fun v2 =>
      zf_b (zf_ldI v2 p1 h) fun v3 =>
      some (v3, h)
set_option maxHeartbeats 4000000 in
set_option maxRecDepth 400000 in
theorem t_f_FilterText_byteAt {sc : (Nat × (Nat → Int32)) × Bool} {d : Nat} (p0 : Nat) (p1 : Int32) (h : zx_H) (r : Int32) (h' : zx_H) (hf : f_FilterText_byteAt p0 p1 h = some (r, h')) : zx_T sc d 57 (0, [(0, .ref p0), (1, .int p1)], []) h (zf_oI r) h' := by
  unfold f_FilterText_byteAt at hf
  refine zv_p (k := 1) (f' := (1, [(0, .ref p0), (1, .int p1)], [.int p1])) zq_57 zo_57 (by with_unfolding_all rfl) ?_
  replace hf := zf_ite hf
  obtain ⟨hc, hf⟩ | ⟨hc, hf⟩ := hf
  · refine zv_brT (off := 20) (tt := 21) (r := []) zq_57 zo_57 hc rfl rfl rfl ?_
    refine zv_p (k := 1) (f' := (22, [(0, .ref p0), (1, .int p1)], [.int (0 : Int32)])) zq_57 zo_57 (by with_unfolding_all rfl) ?_
    cases hf
    exact zv_rn zq_57 zo_57 rfl rfl
  · refine zv_brF (off := 20) (tt := 21) (r := []) zq_57 zo_57 hc rfl rfl rfl ?_
    refine zv_p (k := 2) (f' := (6, [(0, .ref p0), (1, .int p1)], [.ref p0, .int p1])) zq_57 zo_57 (by with_unfolding_all rfl) ?_
    replace hf := zf_be hf
    obtain ⟨v1, hv, hf⟩ := hf
    refine zv_gf zq_57 zo_57 rfl rfl rfl (zf_Ie hv) ?_
    replace hf := zf_ite hf
    obtain ⟨hc, hf⟩ | ⟨hc, hf⟩ := hf
    · refine zv_brT (off := 12) (tt := 21) (r := []) zq_57 zo_57 hc rfl rfl rfl ?_
      refine zv_p (k := 1) (f' := (22, [(0, .ref p0), (1, .int p1)], [.int (0 : Int32)])) zq_57 zo_57 (by with_unfolding_all rfl) ?_
      cases hf
      exact zv_rn zq_57 zo_57 rfl rfl
    · refine zv_brF (off := 12) (tt := 21) (r := []) zq_57 zo_57 hc rfl rfl rfl ?_
      refine zv_p (k := 1) (f' := (13, [(0, .ref p0), (1, .int p1)], [.ref p0])) zq_57 zo_57 (by with_unfolding_all rfl) ?_
      replace hf := zf_be hf
      obtain ⟨v2, hv, hf⟩ := hf
      refine zv_gf zq_57 zo_57 rfl rfl rfl (zf_Ae hv) ?_
      refine zv_p (k := 1) (f' := (17, [(0, .ref p0), (1, .int p1)], [.int p1, .ref v2])) zq_57 zo_57 (by with_unfolding_all rfl) ?_
      replace hf := zf_be hf
      obtain ⟨v3, hv, hf⟩ := hf
      refine zv_ldI zq_57 zo_57 rfl hv ?_
      refine zv_p (k := 1) (f' := (22, [(0, .ref p0), (1, .int p1)], [.int v3])) zq_57 zo_57 (by with_unfolding_all rfl) ?_
      cases hf
      exact zv_rn zq_57 zo_57 rfl rfl
/-! ColumnVault$Tokens.put (IIJ)V -/
noncomputable def zI_59 : zd_T := [[(0, .aload_n 0, 1), (1, .getfield 22, 3), (4, .sipush 160, 3), (7, .if_icmp .gt 43, 3), (10, .aload_n 0, 1), (11, .getfield 9, 3), (14, .aload_n 0, 1), (15, .getfield 22, 3), (18, .iload_n 1, 1), (19, .iastore, 1), (20, .aload_n 0, 1), (21, .getfield 15, 3), (24, .aload_n 0, 1), (25, .getfield 22, 3), (28, .iload_n 2, 1), (29, .iastore, 1), (30, .aload_n 0, 1), (31, .getfield 18, 3)], [(34, .aload_n 0, 1), (35, .getfield 22, 3), (38, .lload_n 3, 1), (39, .lastore, 1), (40, .aload_n 0, 1), (41, .dup, 1), (42, .getfield 22, 3), (45, .iconst 1, 1), (46, .iadd, 1), (47, .putfield 22, 3), (50, .return_, 1)]]
theorem zo_59 : zd_of 59 = some zI_59 := rfl
set_option maxRecDepth 100000 in
theorem zq_59 : zt_m[59]? = some (⟨"ColumnVault$Tokens", "put", "(IIJ)V"⟩, prog_11_method_6_code, 5, none, [], 11, 3, 0, 0, 0, 0) := rfl
set_option maxHeartbeats 1000000 in
def f_Tokens_put (p0 : Nat) (p1 : Int32) (p2 : Int32) (p3 : Int64) (h : zx_H) : Option (Unit × zx_H) :=
  zf_b (zf_I 11 3 p0 h) fun v1 =>
  if (160 : Int32) < v1 then
    some ((), h)
  else
    zf_b (zf_A 11 0 p0 h) fun v2 =>
    zf_b (zf_I 11 3 p0 h) fun v3 =>
    zf_b (zf_stI v2 v3 p1 h) fun h4 =>
    zf_b (zf_A 11 1 p0 h4) fun v5 =>
    zf_b (zf_I 11 3 p0 h4) fun v6 =>
    zf_b (zf_stI v5 v6 p2 h4) fun h7 =>
    zf_b (zf_A 11 2 p0 h7) fun v8 =>
    zf_b (zf_I 11 3 p0 h7) fun v9 =>
    zf_b (zf_stJ v8 v9 p3 h7) fun h10 =>
    zf_b (zf_I 11 3 p0 h10) fun v11 =>
    zf_b (zf_put 11 3 p0 (.int (v11 + (1 : Int32))) h10) fun h12 =>
    some ((), h12)
set_option maxHeartbeats 4000000 in
set_option maxRecDepth 400000 in
theorem t_f_Tokens_put {sc : (Nat × (Nat → Int32)) × Bool} {d : Nat} (p0 : Nat) (p1 : Int32) (p2 : Int32) (p3 : Int64) (h : zx_H) (r : Unit) (h' : zx_H) (hf : f_Tokens_put p0 p1 p2 p3 h = some (r, h')) : zx_T sc d 59 (0, [(0, .ref p0), (1, .int p1), (2, .int p2), (3, .long p3)], []) h (zf_oV r) h' := by
  unfold f_Tokens_put at hf
  refine zv_p (k := 1) (f' := (1, [(0, .ref p0), (1, .int p1), (2, .int p2), (3, .long p3)], [.ref p0])) zq_59 zo_59 (by with_unfolding_all rfl) ?_
  replace hf := zf_be hf
  obtain ⟨v1, hv, hf⟩ := hf
  refine zv_gf zq_59 zo_59 rfl rfl rfl (zf_Ie hv) ?_
  refine zv_p (k := 1) (f' := (7, [(0, .ref p0), (1, .int p1), (2, .int p2), (3, .long p3)], [.int (160 : Int32), .int v1])) zq_59 zo_59 (by with_unfolding_all rfl) ?_
  replace hf := zf_ite hf
  obtain ⟨hc, hf⟩ | ⟨hc, hf⟩ := hf
  · refine zv_brT (off := 43) (tt := 50) (r := []) zq_59 zo_59 hc rfl rfl rfl ?_
    cases hf
    exact zv_r zq_59 zo_59 rfl rfl rfl rfl rfl
  · refine zv_brF (off := 43) (tt := 50) (r := []) zq_59 zo_59 hc rfl rfl rfl ?_
    refine zv_p (k := 1) (f' := (11, [(0, .ref p0), (1, .int p1), (2, .int p2), (3, .long p3)], [.ref p0])) zq_59 zo_59 (by with_unfolding_all rfl) ?_
    replace hf := zf_be hf
    obtain ⟨v2, hv, hf⟩ := hf
    refine zv_gf zq_59 zo_59 rfl rfl rfl (zf_Ae hv) ?_
    refine zv_p (k := 1) (f' := (15, [(0, .ref p0), (1, .int p1), (2, .int p2), (3, .long p3)], [.ref p0, .ref v2])) zq_59 zo_59 (by with_unfolding_all rfl) ?_
    replace hf := zf_be hf
    obtain ⟨v3, hv, hf⟩ := hf
    refine zv_gf zq_59 zo_59 rfl rfl rfl (zf_Ie hv) ?_
    refine zv_p (k := 1) (f' := (19, [(0, .ref p0), (1, .int p1), (2, .int p2), (3, .long p3)], [.int p1, .int v3, .ref v2])) zq_59 zo_59 (by with_unfolding_all rfl) ?_
    replace hf := zf_be hf
    obtain ⟨h4, hv, hf⟩ := hf
    refine zv_stI zq_59 zo_59 rfl hv ?_
    refine zv_p (k := 1) (f' := (21, [(0, .ref p0), (1, .int p1), (2, .int p2), (3, .long p3)], [.ref p0])) zq_59 zo_59 (by with_unfolding_all rfl) ?_
    replace hf := zf_be hf
    obtain ⟨v5, hv, hf⟩ := hf
    refine zv_gf zq_59 zo_59 rfl rfl rfl (zf_Ae hv) ?_
    refine zv_p (k := 1) (f' := (25, [(0, .ref p0), (1, .int p1), (2, .int p2), (3, .long p3)], [.ref p0, .ref v5])) zq_59 zo_59 (by with_unfolding_all rfl) ?_
    replace hf := zf_be hf
    obtain ⟨v6, hv, hf⟩ := hf
    refine zv_gf zq_59 zo_59 rfl rfl rfl (zf_Ie hv) ?_
    refine zv_p (k := 1) (f' := (29, [(0, .ref p0), (1, .int p1), (2, .int p2), (3, .long p3)], [.int p2, .int v6, .ref v5])) zq_59 zo_59 (by with_unfolding_all rfl) ?_
    replace hf := zf_be hf
    obtain ⟨h7, hv, hf⟩ := hf
    refine zv_stI zq_59 zo_59 rfl hv ?_
    refine zv_p (k := 1) (f' := (31, [(0, .ref p0), (1, .int p1), (2, .int p2), (3, .long p3)], [.ref p0])) zq_59 zo_59 (by with_unfolding_all rfl) ?_
    replace hf := zf_be hf
    obtain ⟨v8, hv, hf⟩ := hf
    refine zv_gf zq_59 zo_59 rfl rfl rfl (zf_Ae hv) ?_
    refine zv_p (k := 1) (f' := (35, [(0, .ref p0), (1, .int p1), (2, .int p2), (3, .long p3)], [.ref p0, .ref v8])) zq_59 zo_59 (by with_unfolding_all rfl) ?_
    replace hf := zf_be hf
    obtain ⟨v9, hv, hf⟩ := hf
    refine zv_gf zq_59 zo_59 rfl rfl rfl (zf_Ie hv) ?_
    refine zv_p (k := 1) (f' := (39, [(0, .ref p0), (1, .int p1), (2, .int p2), (3, .long p3)], [.long p3, .int v9, .ref v8])) zq_59 zo_59 (by with_unfolding_all rfl) ?_
    replace hf := zf_be hf
    obtain ⟨h10, hv, hf⟩ := hf
    refine zv_stJ zq_59 zo_59 rfl hv ?_
    refine zv_p (k := 2) (f' := (42, [(0, .ref p0), (1, .int p1), (2, .int p2), (3, .long p3)], [.ref p0, .ref p0])) zq_59 zo_59 (by with_unfolding_all rfl) ?_
    replace hf := zf_be hf
    obtain ⟨v11, hv, hf⟩ := hf
    refine zv_gf zq_59 zo_59 rfl rfl rfl (zf_Ie hv) ?_
    refine zv_p (k := 2) (f' := (47, [(0, .ref p0), (1, .int p1), (2, .int p2), (3, .long p3)], [.int (v11 + (1 : Int32)), .ref p0])) zq_59 zo_59 (by with_unfolding_all rfl) ?_
    replace hf := zf_be hf
    obtain ⟨h12, hv, hf⟩ := hf
    refine zv_pf zq_59 zo_59 rfl rfl rfl rfl hv ?_
    cases hf
    exact zv_r zq_59 zo_59 rfl rfl rfl rfl rfl
/-! ColumnVault.isDigit (I)Z -/
noncomputable def zI_60 : zd_T := [[(0, .iload_n 0, 1), (1, .bipush 48, 2), (3, .if_icmp .lt 13, 3), (6, .iload_n 0, 1), (7, .bipush 57, 2), (9, .if_icmp .gt 7, 3), (12, .iconst 1, 1), (13, .goto 4, 3), (16, .iconst 0, 1), (17, .ireturn, 1)]]
theorem zo_60 : zd_of 60 = some zI_60 := rfl
set_option maxRecDepth 100000 in
theorem zq_60 : zt_m[60]? = some (⟨"ColumnVault", "isDigit", "(I)Z"⟩, prog_1_method_56_code, 1, some (.boolean), [], 12, 1, 0, 1, 99999, 0) := rfl
set_option maxHeartbeats 1000000 in
def f_ColumnVault_isDigit (p0 : Int32) (h : zx_H) : Option (Int32 × zx_H) :=
  if p0 < (48 : Int32) then
    some ((0 : Int32), h)
  else
    if (57 : Int32) < p0 then
      some ((0 : Int32), h)
    else
      some ((1 : Int32), h)
set_option maxHeartbeats 4000000 in
set_option maxRecDepth 400000 in
theorem t_f_ColumnVault_isDigit {sc : (Nat × (Nat → Int32)) × Bool} {d : Nat} (p0 : Int32) (h : zx_H) (r : Int32) (h' : zx_H) (hf : f_ColumnVault_isDigit p0 h = some (r, h')) : zx_T sc d 60 (0, [(0, .int p0)], []) h (zf_oI r) h' := by
  unfold f_ColumnVault_isDigit at hf
  refine zv_p (k := 2) (f' := (3, [(0, .int p0)], [.int (48 : Int32), .int p0])) zq_60 zo_60 (by with_unfolding_all rfl) ?_
  replace hf := zf_ite hf
  obtain ⟨hc, hf⟩ | ⟨hc, hf⟩ := hf
  · refine zv_brT (off := 13) (tt := 16) (r := []) zq_60 zo_60 hc rfl rfl rfl ?_
    refine zv_p (k := 1) (f' := (17, [(0, .int p0)], [.int (0 : Int32)])) zq_60 zo_60 (by with_unfolding_all rfl) ?_
    cases hf
    exact zv_rn zq_60 zo_60 rfl rfl
  · refine zv_brF (off := 13) (tt := 16) (r := []) zq_60 zo_60 hc rfl rfl rfl ?_
    refine zv_p (k := 2) (f' := (9, [(0, .int p0)], [.int (57 : Int32), .int p0])) zq_60 zo_60 (by with_unfolding_all rfl) ?_
    replace hf := zf_ite hf
    obtain ⟨hc, hf⟩ | ⟨hc, hf⟩ := hf
    · refine zv_brT (off := 7) (tt := 16) (r := []) zq_60 zo_60 hc rfl rfl rfl ?_
      refine zv_p (k := 1) (f' := (17, [(0, .int p0)], [.int (0 : Int32)])) zq_60 zo_60 (by with_unfolding_all rfl) ?_
      cases hf
      exact zv_rn zq_60 zo_60 rfl rfl
    · refine zv_brF (off := 7) (tt := 16) (r := []) zq_60 zo_60 hc rfl rfl rfl ?_
      refine zv_p (k := 2) (f' := (17, [(0, .int p0)], [.int (1 : Int32)])) zq_60 zo_60 (by with_unfolding_all rfl) ?_
      cases hf
      exact zv_rn zq_60 zo_60 rfl rfl
/-! ColumnVault$Tokens.readWord (LColumnVault$FilterText;I)I -/
noncomputable def zI_61 : zd_T := [[(0, .lconst 0, 1), (1, .lstore_n 3, 1), (2, .iload_n 2, 1), (3, .istore 5, 2), (5, .iload 5, 2), (7, .aload_n 1, 1), (8, .getfield 26, 3), (11, .if_icmp .ge 34, 3), (14, .aload_n 1, 1), (15, .iload 5, 2), (17, .invokevirtual 31, 3), (20, .invokestatic 55, 3), (23, .ifCond .eq 22, 3), (26, .lload_n 3, 1), (27, .bipush 8, 2), (29, .lshl, 1), (30, .aload_n 1, 1), (31, .iload 5, 2)], [(33, .invokevirtual 31, 3), (36, .i2l, 1), (37, .lor, 1), (38, .lstore_n 3, 1), (39, .iinc 5 1, 3), (42, .goto (-37), 3), (45, .aload_n 0, 1), (46, .bipush 97, 2), (48, .iload_n 2, 1), (49, .iload 5, 2), (51, .iload_n 2, 1), (52, .isub, 1), (53, .bipush 7, 2), (55, .if_icmp .le 9, 3), (58, .ldc2_w 64, 3), (61, .goto 4, 3)], [(64, .lload_n 3, 1), (65, .invokevirtual 47, 3), (68, .iload 5, 2), (70, .iload_n 2, 1), (71, .isub, 1), (72, .ireturn, 1)]]
theorem zo_61 : zd_of 61 = some zI_61 := rfl
set_option maxRecDepth 100000 in
theorem zq_61 : zt_m[61]? = some (⟨"ColumnVault$Tokens", "readWord", "(LColumnVault$FilterText;I)I"⟩, prog_11_method_4_code, 6, some (.int), [], 11, 2, 0, 0, 0, 0) := rfl
set_option maxHeartbeats 1000000 in
def f_Tokens_readWord_45 (p0 : Nat) (p1 : Int32) (p2 : Int64) (p3 : Int32) (h : zx_H) : Option (Int32 × zx_H) :=
  if (p3 - p1) ≤ (7 : Int32) then
    zf_b (zf_is 11 p0 h) fun _ =>
    zf_b2 (f_Tokens_put p0 (97 : Int32) p1 p2 h) fun _ h2 =>
    some ((p3 - p1), h2)
  else
    zf_b (zf_is 11 p0 h) fun _ =>
    zf_b2 (f_Tokens_put p0 (97 : Int32) p1 (-9000000000 : Int64) h) fun _ h4 =>
    some ((p3 - p1), h4)
set_option maxHeartbeats 4000000 in
set_option maxRecDepth 400000 in
theorem t_f_Tokens_readWord_45 {sc : (Nat × (Nat → Int32)) × Bool} {d : Nat} (p0 : Nat) (p1 : Int32) (p2 : Int64) (p3 : Int32) (h : zx_H) (r : Int32) (h' : zx_H) (hf : f_Tokens_readWord_45 p0 p1 p2 p3 h = some (r, h')) : zx_T sc (d + 1) 61 (45, [(0, .ref p0), (2, .int p1), (3, .long p2), (5, .int p3)], []) h (zf_oI r) h' := by
  unfold f_Tokens_readWord_45 at hf
  refine zv_p (k := 7) (f' := (55, [(0, .ref p0), (2, .int p1), (3, .long p2), (5, .int p3)], [.int (7 : Int32), .int (p3 - p1), .int p1, .int (97 : Int32), .ref p0])) zq_61 zo_61 (by with_unfolding_all rfl) ?_
  replace hf := zf_ite hf
  obtain ⟨hc, hf⟩ | ⟨hc, hf⟩ := hf
  · refine zv_brT (off := 9) (tt := 64) (r := [.int p1, .int (97 : Int32), .ref p0]) zq_61 zo_61 hc rfl rfl rfl ?_
    refine zv_p (k := 1) (f' := (65, [(0, .ref p0), (2, .int p1), (3, .long p2), (5, .int p3)], [.long p2, .int p1, .int (97 : Int32), .ref p0])) zq_61 zo_61 (by with_unfolding_all rfl) ?_
    replace hf := zf_be hf
    obtain ⟨_, ho, hf⟩ := hf
    replace hf := zf_b2e hf
    obtain ⟨v1, h2, hv, hf⟩ := hf
    refine zv_c zq_61 zo_61 rfl rfl rfl rfl rfl (zv_cv rfl rfl rfl (zf_ise ho) rfl) (t_f_Tokens_put _ _ _ _ _ _ _ hv) ?_
    refine zv_p (k := 3) (f' := (72, [(0, .ref p0), (2, .int p1), (3, .long p2), (5, .int p3)], [.int (p3 - p1)])) zq_61 zo_61 (by with_unfolding_all rfl) ?_
    cases hf
    exact zv_rn zq_61 zo_61 rfl rfl
  · refine zv_brF (off := 9) (tt := 64) (r := [.int p1, .int (97 : Int32), .ref p0]) zq_61 zo_61 hc rfl rfl rfl ?_
    refine zv_lng zq_61 zo_61 rfl rfl ?_
    refine zv_p (k := 1) (f' := (65, [(0, .ref p0), (2, .int p1), (3, .long p2), (5, .int p3)], [.long (-9000000000 : Int64), .int p1, .int (97 : Int32), .ref p0])) zq_61 zo_61 (by with_unfolding_all rfl) ?_
    replace hf := zf_be hf
    obtain ⟨_, ho, hf⟩ := hf
    replace hf := zf_b2e hf
    obtain ⟨v3, h4, hv, hf⟩ := hf
    refine zv_c zq_61 zo_61 rfl rfl rfl rfl rfl (zv_cv rfl rfl rfl (zf_ise ho) rfl) (t_f_Tokens_put _ _ _ _ _ _ _ hv) ?_
    refine zv_p (k := 3) (f' := (72, [(0, .ref p0), (2, .int p1), (3, .long p2), (5, .int p3)], [.int (p3 - p1)])) zq_61 zo_61 (by with_unfolding_all rfl) ?_
    cases hf
    exact zv_rn zq_61 zo_61 rfl rfl
