set_option maxHeartbeats 1000000 in
def f_FilterReader_readFilterb (r_65 : Nat → Int32 → zx_H → Option (Option Nat × zx_H)) (p0 : Nat) (p1 : Int32) (h : zx_H) : Option (Option Nat × zx_H) :=
  zf_b2 (zf_new 8 h) fun q1 h2 =>
  zf_b2 (f_Node_init q1 (2 : Int32) (0 : Int64) h2) fun _ h4 =>
  f_FilterReader_readFilter_15 r_65 zF p0 p1 q1 (1 : Int32) (0 : Int32) h4
set_option maxHeartbeats 4000000 in
set_option maxRecDepth 400000 in
theorem t_f_FilterReader_readFilterb {sc : (Nat × (Nat → Int32)) × Bool} {d : Nat} {r_65 : Nat → Int32 → zx_H → Option (Option Nat × zx_H)} (hr : ∀ (a0 : Nat) (a1 : Int32) (h : zx_H) (r : Option Nat) (h' : zx_H), r_65 a0 a1 h = some (r, h') → zx_T sc d 65 (0, [(0, .ref a0), (1, .int a1)], []) h (zf_oN r) h') (p0 : Nat) (p1 : Int32) (h : zx_H) (r : Option Nat) (h' : zx_H) (hf : f_FilterReader_readFilterb r_65 p0 p1 h = some (r, h')) : zx_T sc (d + 6) 65 (0, [(0, .ref p0), (1, .int p1)], []) h (zf_oN r) h' := by
  unfold f_FilterReader_readFilterb at hf
  replace hf := zf_b2e hf
  obtain ⟨q1, h2, hv, hf⟩ := hf
  refine zv_new zq_65 zo_65 rfl rfl rfl hv ?_
  refine zv_p (k := 3) (f' := (6, [(0, .ref p0), (1, .int p1)], [.long (0 : Int64), .int (2 : Int32), .ref q1, .ref q1])) zq_65 zo_65 (by with_unfolding_all rfl) ?_
  replace hf := zf_b2e hf
  obtain ⟨v3, h4, hv, hf⟩ := hf
  refine zv_c zq_65 zo_65 rfl rfl rfl rfl rfl rfl (t_f_Node_init _ _ _ _ _ _ hv) ?_
  refine zv_p (k := 5) (f' := (15, [(4, .int (0 : Int32)), (3, .int (1 : Int32)), (2, .ref q1), (0, .ref p0), (1, .int p1)], [])) zq_65 zo_65 (by with_unfolding_all rfl) ?_
  refine zv_pick (lv' := [(0, .ref p0), (1, .int p1), (2, .ref q1), (3, .int (1 : Int32)), (4, .int (0 : Int32))]) [0, 1, 2, 3, 4] rfl rfl ?_
  exact t_f_FilterReader_readFilter_15 hr zF _ _ _ _ _ _ _ _ hf
set_option maxHeartbeats 1000000 in
def f_FilterReader_readFilter : Nat → Nat → Int32 → zx_H → Option (Option Nat × zx_H)
  | 0, _, _, _ => none
  | n + 1, p0, p1, h => f_FilterReader_readFilterb (f_FilterReader_readFilter n) p0 p1 h
set_option maxHeartbeats 4000000 in
set_option maxRecDepth 400000 in
theorem t_f_FilterReader_readFilter {sc : (Nat × (Nat → Int32)) × Bool} {d : Nat} : ∀ (n : Nat) (p0 : Nat) (p1 : Int32) (h : zx_H) (r : Option Nat) (h' : zx_H), f_FilterReader_readFilter n p0 p1 h = some (r, h') → zx_T sc (d + 6 * n) 65 (0, [(0, .ref p0), (1, .int p1)], []) h (zf_oN r) h' := by
  intro n
  induction n with
  | zero => intro p0 p1 h r h' hf; cases hf
  | succ n ih =>
    intro p0 p1 h r h' hf
    unfold f_FilterReader_readFilter at hf
    rw [show d + 6 * (n + 1) = (d + 6 * n) + 6 by omega]
    exact t_f_FilterReader_readFilterb ih p0 p1 h r h' hf
theorem tc_f_FilterReader_readFilter {sc : (Nat × (Nat → Int32)) × Bool} {d : Nat} (p0 : Nat) (p1 : Int32) (h : zx_H) (r : Option Nat) (h' : zx_H) (hf : f_FilterReader_readFilter 20 p0 p1 h = some (r, h')) : zx_T sc (d + 120) 65 (0, [(0, .ref p0), (1, .int p1)], []) h (zf_oN r) h' := t_f_FilterReader_readFilter 20 p0 p1 h r h' hf
set_option maxHeartbeats 4000000 in
set_option maxRecDepth 400000 in
theorem tc_f_FilterReader_readBrackets {sc : (Nat × (Nat → Int32)) × Bool} {d : Nat} (p0 : Nat) (p1 : Int32) (h : zx_H) (r : Option Nat) (h' : zx_H) (hf : f_FilterReader_readBrackets (f_FilterReader_readFilter 20) p0 p1 h = some (r, h')) : zx_T sc (d + 122) 74 (0, [(0, .ref p0), (1, .int p1)], []) h (zf_oN r) h' := by
  rw [show d + 122 = (d + 120) + 2 by omega]
  exact t_f_FilterReader_readBrackets (tc_f_FilterReader_readFilter (d := d)) p0 p1 h r h' hf
set_option maxHeartbeats 4000000 in
set_option maxRecDepth 400000 in
theorem tc_f_FilterReader_readPiece {sc : (Nat × (Nat → Int32)) × Bool} {d : Nat} (p0 : Nat) (p1 : Int32) (h : zx_H) (r : Option Nat) (h' : zx_H) (hf : f_FilterReader_readPiece (f_FilterReader_readFilter 20) p0 p1 h = some (r, h')) : zx_T sc (d + 124) 69 (0, [(0, .ref p0), (1, .int p1)], []) h (zf_oN r) h' := by
  rw [show d + 124 = (d + 120) + 4 by omega]
  exact t_f_FilterReader_readPiece (tc_f_FilterReader_readFilter (d := d)) p0 p1 h r h' hf
set_option maxHeartbeats 4000000 in
set_option maxRecDepth 400000 in
theorem tc_f_FilterReader_readPart {sc : (Nat × (Nat → Int32)) × Bool} {d : Nat} (p0 : Nat) (p1 : Int32) (h : zx_H) (r : Option Nat) (h' : zx_H) (hf : f_FilterReader_readPart (f_FilterReader_readFilter 20) p0 p1 h = some (r, h')) : zx_T sc (d + 125) 67 (0, [(0, .ref p0), (1, .int p1)], []) h (zf_oN r) h' := by
  rw [show d + 125 = (d + 120) + 5 by omega]
  exact t_f_FilterReader_readPart (tc_f_FilterReader_readFilter (d := d)) p0 p1 h r h' hf
/-! ColumnVault$FilterReader.readWhole (LColumnVault$FilterText;)LColumnVault$Node; -/
noncomputable def zI_55 : zd_T := [[(0, .aload_n 0, 1), (1, .getfield 28, 3), (4, .aload_n 1, 1), (5, .invokevirtual 36, 3), (8, .aload_n 0, 1), (9, .iconst 0, 1), (10, .invokevirtual 42, 3), (13, .astore_n 2, 1), (14, .aload_n 2, 1), (15, .ifnull 34, 3), (18, .aload_n 0, 1), (19, .getfield 28, 3), (22, .aload_n 0, 1), (23, .getfield 19, 3), (26, .invokevirtual 46, 3), (29, .ifCond .eq 20, 3)], [(32, .aload_n 0, 1), (33, .iconst 1, 1), (34, .aload_n 0, 1), (35, .getfield 28, 3), (38, .aload_n 0, 1), (39, .getfield 19, 3), (42, .invokevirtual 50, 3), (45, .invokevirtual 53, 3), (48, .areturn, 1), (49, .aload_n 2, 1), (50, .areturn, 1)]]
theorem zo_55 : zd_of 55 = some zI_55 := rfl
set_option maxRecDepth 100000 in
theorem zq_55 : zt_m[55]? = some (⟨"ColumnVault$FilterReader", "readWhole", "(LColumnVault$FilterText;)LColumnVault$Node;"⟩, prog_3_method_2_code, 3, some (.object "ColumnVault$Node"), [], 3, 1, 0, 0, 0, 0) := rfl
set_option maxHeartbeats 1000000 in
def f_FilterReader_readWhole (p0 : Nat) (p1 : Nat) (h : zx_H) : Option (Option Nat × zx_H) :=
  zf_b (zf_A 3 0 p0 h) fun v1 =>
  zf_b (zf_is 11 v1 h) fun _ =>
  zf_b2 (f_Tokens_readFrom v1 p1 h) fun _ h3 =>
  zf_b (zf_is 3 p0 h3) fun _ =>
  zf_b2 (f_FilterReader_readFilter 20 p0 (0 : Int32) h3) fun v4 h5 =>
  zf_on v4 (
    some (none, h5)
  ) fun q6 =>
    zf_b (zf_A 3 0 p0 h5) fun v7 =>
    zf_b (zf_I 3 4 p0 h5) fun v8 =>
    zf_b (zf_is 11 v7 h5) fun _ =>
    zf_b2 (f_Tokens_formAt v7 v8 h5) fun v9 h10 =>
    if v9 = 0 then
      some ((some q6), h10)
    else
      zf_b (zf_A 3 0 p0 h10) fun v11 =>
      zf_b (zf_I 3 4 p0 h10) fun v12 =>
      zf_b (zf_is 11 v11 h10) fun _ =>
      zf_b2 (f_Tokens_placeAt v11 v12 h10) fun v13 h14 =>
      zf_b (zf_is 3 p0 h14) fun _ =>
      zf_b2 (f_FilterReader_fail p0 (1 : Int32) v13 h14) fun v15 h16 =>
      some (v15, h16)
set_option maxHeartbeats 4000000 in
set_option maxRecDepth 400000 in
theorem t_f_FilterReader_readWhole {sc : (Nat × (Nat → Int32)) × Bool} {d : Nat} (p0 : Nat) (p1 : Nat) (h : zx_H) (r : Option Nat) (h' : zx_H) (hf : f_FilterReader_readWhole p0 p1 h = some (r, h')) : zx_T sc (d + 121) 55 (0, [(0, .ref p0), (1, .ref p1)], []) h (zf_oN r) h' := by
  unfold f_FilterReader_readWhole at hf
  refine zv_p (k := 1) (f' := (1, [(0, .ref p0), (1, .ref p1)], [.ref p0])) zq_55 zo_55 (by with_unfolding_all rfl) ?_
  replace hf := zf_be hf
  obtain ⟨v1, hv, hf⟩ := hf
  refine zv_gf zq_55 zo_55 rfl rfl rfl (zf_Ae hv) ?_
  refine zv_p (k := 1) (f' := (5, [(0, .ref p0), (1, .ref p1)], [.ref p1, .ref v1])) zq_55 zo_55 (by with_unfolding_all rfl) ?_
  replace hf := zf_be hf
  obtain ⟨_, ho, hf⟩ := hf
  replace hf := zf_b2e hf
  obtain ⟨v2, h3, hv, hf⟩ := hf
  refine zv_c zq_55 zo_55 rfl rfl rfl rfl rfl (zv_cv rfl rfl rfl (zf_ise ho) rfl) (t_f_Tokens_readFrom _ _ _ _ _ hv) ?_
  refine zv_p (k := 2) (f' := (10, [(0, .ref p0), (1, .ref p1)], [.int (0 : Int32), .ref p0])) zq_55 zo_55 (by with_unfolding_all rfl) ?_
  replace hf := zf_be hf
  obtain ⟨_, ho, hf⟩ := hf
  replace hf := zf_b2e hf
  obtain ⟨v4, h5, hv, hf⟩ := hf
  refine zv_c zq_55 zo_55 rfl rfl rfl rfl rfl (zv_cv rfl rfl rfl (zf_ise ho) rfl) (tc_f_FilterReader_readFilter _ _ _ _ _ hv) ?_
  refine zv_p (k := 2) (f' := (15, [(2, zx_rf v4), (0, .ref p0), (1, .ref p1)], [zx_rf v4])) zq_55 zo_55 (by cases v4 <;> with_unfolding_all rfl) ?_
  replace hf := zf_elim hf
  obtain ⟨rfl, hf⟩ | ⟨q6, rfl, hf⟩ := hf
  · refine zv_p (k := 1) (f' := (49, [(2, .null), (0, .ref p0), (1, .ref p1)], [])) zq_55 zo_55 (by with_unfolding_all rfl) ?_
    refine zv_p (k := 1) (f' := (50, [(2, .null), (0, .ref p0), (1, .ref p1)], [.null])) zq_55 zo_55 (by with_unfolding_all rfl) ?_
    cases hf
    exact zv_r zq_55 zo_55 rfl rfl rfl rfl rfl
  · refine zv_p (k := 1) (f' := (18, [(2, .ref q6), (0, .ref p0), (1, .ref p1)], [])) zq_55 zo_55 (by with_unfolding_all rfl) ?_
    refine zv_p (k := 1) (f' := (19, [(2, .ref q6), (0, .ref p0), (1, .ref p1)], [.ref p0])) zq_55 zo_55 (by with_unfolding_all rfl) ?_
    replace hf := zf_be hf
    obtain ⟨v7, hv, hf⟩ := hf
    refine zv_gf zq_55 zo_55 rfl rfl rfl (zf_Ae hv) ?_
    refine zv_p (k := 1) (f' := (23, [(2, .ref q6), (0, .ref p0), (1, .ref p1)], [.ref p0, .ref v7])) zq_55 zo_55 (by with_unfolding_all rfl) ?_
    replace hf := zf_be hf
    obtain ⟨v8, hv, hf⟩ := hf
    refine zv_gf zq_55 zo_55 rfl rfl rfl (zf_Ie hv) ?_
    replace hf := zf_be hf
    obtain ⟨_, ho, hf⟩ := hf
    replace hf := zf_b2e hf
    obtain ⟨v9, h10, hv, hf⟩ := hf
    refine zv_c zq_55 zo_55 rfl rfl rfl rfl rfl (zv_cv rfl rfl rfl (zf_ise ho) rfl) (t_f_Tokens_formAt _ _ _ _ _ hv) ?_
    replace hf := zf_ite hf
    obtain ⟨hc, hf⟩ | ⟨hc, hf⟩ := hf
    · refine zv_brT (off := 20) (tt := 49) (r := []) zq_55 zo_55 hc rfl rfl rfl ?_
      refine zv_p (k := 1) (f' := (50, [(2, .ref q6), (0, .ref p0), (1, .ref p1)], [.ref q6])) zq_55 zo_55 (by with_unfolding_all rfl) ?_
      cases hf
      exact zv_r zq_55 zo_55 rfl rfl rfl rfl rfl
    · refine zv_brF (off := 20) (tt := 49) (r := []) zq_55 zo_55 hc rfl rfl rfl ?_
      refine zv_p (k := 3) (f' := (35, [(2, .ref q6), (0, .ref p0), (1, .ref p1)], [.ref p0, .int (1 : Int32), .ref p0])) zq_55 zo_55 (by with_unfolding_all rfl) ?_
      replace hf := zf_be hf
      obtain ⟨v11, hv, hf⟩ := hf
      refine zv_gf zq_55 zo_55 rfl rfl rfl (zf_Ae hv) ?_
      refine zv_p (k := 1) (f' := (39, [(2, .ref q6), (0, .ref p0), (1, .ref p1)], [.ref p0, .ref v11, .int (1 : Int32), .ref p0])) zq_55 zo_55 (by with_unfolding_all rfl) ?_
      replace hf := zf_be hf
      obtain ⟨v12, hv, hf⟩ := hf
      refine zv_gf zq_55 zo_55 rfl rfl rfl (zf_Ie hv) ?_
      replace hf := zf_be hf
      obtain ⟨_, ho, hf⟩ := hf
      replace hf := zf_b2e hf
      obtain ⟨v13, h14, hv, hf⟩ := hf
      refine zv_c zq_55 zo_55 rfl rfl rfl rfl rfl (zv_cv rfl rfl rfl (zf_ise ho) rfl) (t_f_Tokens_placeAt _ _ _ _ _ hv) ?_
      replace hf := zf_be hf
      obtain ⟨_, ho, hf⟩ := hf
      replace hf := zf_b2e hf
      obtain ⟨v15, h16, hv, hf⟩ := hf
      refine zv_c zq_55 zo_55 rfl rfl rfl rfl rfl (zv_cv rfl rfl rfl (zf_ise ho) rfl) (t_f_FilterReader_fail _ _ _ _ _ _ hv) ?_
      cases hf
      exact zv_r zq_55 zo_55 rfl (by cases r <;> rfl) (by cases r <;> rfl) (by cases r <;> rfl) (by cases r <;> rfl)
/-! ColumnVault.filterOf (I)LColumnVault$Node; -/
noncomputable def zI_52 : zd_T := [[(0, .aload_n 0, 1), (1, .iload_n 1, 1), (2, .invokevirtual 203, 3), (5, .aload_n 0, 1), (6, .getfield 21, 3), (9, .invokevirtual 207, 3), (12, .astore_n 2, 1), (13, .aload_n 2, 1), (14, .ifnonnull 14, 3), (17, .new 70, 3), (20, .dup, 1), (21, .ldc_w 364, 3), (24, .invokespecial 74, 3), (27, .athrow, 1), (28, .aload_n 2, 1), (29, .areturn, 1)]]
theorem zo_52 : zd_of 52 = some zI_52 := rfl
set_option maxRecDepth 100000 in
theorem zq_52 : zt_m[52]? = some (⟨"ColumnVault", "filterOf", "(I)LColumnVault$Node;"⟩, prog_1_method_45_code, 3, some (.object "ColumnVault$Node"), [], 12, 1, 0, 0, 0, 0) := rfl
set_option maxHeartbeats 1000000 in
def f_ColumnVault_filterOf (p0 : Nat) (p1 : Int32) (h : zx_H) : Option ((Nat ⊕ Nat) × zx_H) :=
  zf_b (zf_is 12 p0 h) fun _ =>
  zf_b3 (f_ColumnVault_readerOf p0 p1 h) fun v1 h2 =>
  zf_b (zf_A 12 1 p0 h2) fun v4 =>
  zf_b (zf_is 3 v1 h2) fun _ =>
  zf_b2 (f_FilterReader_readWhole v1 v4 h2) fun v5 h6 =>
  zf_on v5 (
    if h6.length < zx_lim then some (.inr 15, h6 ++ [.inr (15, [])]) else none
  ) fun q7 =>
    some (.inl q7, h6)
set_option maxHeartbeats 4000000 in
set_option maxRecDepth 400000 in
theorem t_f_ColumnVault_filterOf {sc : (Nat × (Nat → Int32)) × Bool} {d : Nat} (p0 : Nat) (p1 : Int32) (h : zx_H) (r : (Nat ⊕ Nat)) (h' : zx_H) (hf : f_ColumnVault_filterOf p0 p1 h = some (r, h')) : zx_T sc (d + 122) 52 (0, [(0, .ref p0), (1, .int p1)], []) h (zf_oAx r) h' := by
  unfold f_ColumnVault_filterOf at hf
  refine zv_p (k := 2) (f' := (2, [(0, .ref p0), (1, .int p1)], [.int p1, .ref p0])) zq_52 zo_52 (by with_unfolding_all rfl) ?_
  replace hf := zf_be hf
  obtain ⟨_, ho, hf⟩ := hf
  replace hf := zf_b3e hf
  obtain ⟨v1, h2, hv, hf⟩ | ⟨E3, h2, hv, hf⟩ := hf
  rotate_left
  · cases hf; exact zv_cx zq_52 zo_52 rfl rfl rfl rfl rfl (zv_cv rfl rfl rfl (zf_ise ho) rfl) (t_f_ColumnVault_readerOf _ _ _ _ _ hv) rfl
  refine zv_c zq_52 zo_52 rfl rfl rfl rfl rfl (zv_cv rfl rfl rfl (zf_ise ho) rfl) (t_f_ColumnVault_readerOf _ _ _ _ _ hv) ?_
  refine zv_p (k := 1) (f' := (6, [(0, .ref p0), (1, .int p1)], [.ref p0, .ref v1])) zq_52 zo_52 (by with_unfolding_all rfl) ?_
  replace hf := zf_be hf
  obtain ⟨v4, hv, hf⟩ := hf
  refine zv_gf zq_52 zo_52 rfl rfl rfl (zf_Ae hv) ?_
  replace hf := zf_be hf
  obtain ⟨_, ho, hf⟩ := hf
  replace hf := zf_b2e hf
  obtain ⟨v5, h6, hv, hf⟩ := hf
  refine zv_c zq_52 zo_52 rfl rfl rfl rfl rfl (zv_cv rfl rfl rfl (zf_ise ho) rfl) (t_f_FilterReader_readWhole _ _ _ _ _ hv) ?_
  refine zv_p (k := 2) (f' := (14, [(2, zx_rf v5), (0, .ref p0), (1, .int p1)], [zx_rf v5])) zq_52 zo_52 (by cases v5 <;> with_unfolding_all rfl) ?_
  replace hf := zf_elim hf
  obtain ⟨rfl, hf⟩ | ⟨q7, rfl, hf⟩ := hf
  · refine zv_p (k := 1) (f' := (17, [(2, .null), (0, .ref p0), (1, .int p1)], [])) zq_52 zo_52 (by with_unfolding_all rfl) ?_
    replace hf := zf_ite hf
    obtain ⟨hc, hf⟩ | ⟨hc, hf⟩ := hf
    · cases hf; exact zv_tw zq_52 zo_52 rfl rfl rfl rfl rfl rfl rfl rfl rfl hc
    · cases hf
  · refine zv_p (k := 1) (f' := (28, [(2, .ref q7), (0, .ref p0), (1, .int p1)], [])) zq_52 zo_52 (by with_unfolding_all rfl) ?_
    refine zv_p (k := 1) (f' := (29, [(2, .ref q7), (0, .ref p0), (1, .int p1)], [.ref q7])) zq_52 zo_52 (by with_unfolding_all rfl) ?_
    cases hf
    exact zv_r zq_52 zo_52 rfl rfl rfl rfl rfl
/-! ColumnVault.choose (II)I -/
noncomputable def zI_51 : zd_T := [[(0, .aload_n 0, 1), (1, .iload_n 1, 1), (2, .invokevirtual 53, 3), (5, .pop, 1), (6, .iload_n 2, 1), (7, .ifCond .lt 8, 3), (10, .iload_n 2, 1), (11, .iconst 3, 1), (12, .if_icmp .le 13, 3), (15, .new 57, 3), (18, .dup, 1), (19, .ldc 182, 2), (21, .invokespecial 61, 3), (24, .athrow, 1), (25, .aload_n 0, 1), (26, .iload_n 1, 1), (27, .invokevirtual 184, 3), (30, .getfield 188, 3)], [(33, .lstore_n 3, 1), (34, .aload_n 0, 1), (35, .iload_n 1, 1), (36, .invokevirtual 75, 3), (39, .astore 5, 2), (41, .iload_n 2, 1), (42, .ifCond .ne 12, 3), (45, .aload 5, 2), (47, .lload_n 3, 1), (48, .putfield 133, 3), (51, .goto 56, 3), (54, .iload_n 2, 1), (55, .iconst 1, 1), (56, .if_icmp .ne 17, 3), (59, .aload 5, 2), (61, .dup, 1), (62, .getfield 133, 3)], [(65, .lload_n 3, 1), (66, .land, 1), (67, .putfield 133, 3), (70, .goto 37, 3), (73, .iload_n 2, 1), (74, .iconst 2, 1), (75, .if_icmp .ne 17, 3), (78, .aload 5, 2), (80, .dup, 1), (81, .getfield 133, 3), (84, .lload_n 3, 1), (85, .lor, 1), (86, .putfield 133, 3), (89, .goto 18, 3), (92, .aload 5, 2), (94, .dup, 1), (95, .getfield 133, 3)], [(98, .lload_n 3, 1), (99, .ldc2_w 193, 3), (102, .lxor, 1), (103, .land, 1), (104, .putfield 133, 3), (107, .aload 5, 2), (109, .getfield 133, 3), (112, .invokestatic 137, 3), (115, .ireturn, 1)]]
theorem zo_51 : zd_of 51 = some zI_51 := rfl
set_option maxRecDepth 100000 in
theorem zq_51 : zt_m[51]? = some (⟨"ColumnVault", "choose", "(II)I"⟩, prog_1_method_16_code, 6, some (.int), [], 12, 2, 0, 0, 0, 0) := rfl
set_option maxHeartbeats 1000000 in
def f_ColumnVault_choose (p0 : Nat) (p1 : Int32) (p2 : Int32) (h : zx_H) : Option ((Int32 ⊕ Nat) × zx_H) :=
  zf_b (zf_is 12 p0 h) fun _ =>
  zf_b3 (f_ColumnVault_sheetOf p0 p1 h) fun v1 h2 =>
  if p2 < 0 then
    if h2.length < zx_lim then some (.inr 14, h2 ++ [.inr (14, [])]) else none
  else
    if p2 ≤ (3 : Int32) then
      zf_b (zf_is 12 p0 h2) fun _ =>
      zf_b3 (f_ColumnVault_filterOf p0 p1 h2) fun v4 h5 =>
      zf_b (zf_J 8 1 v4 h5) fun v7 =>
      zf_b (zf_is 12 p0 h5) fun _ =>
      zf_b3 (f_ColumnVault_nextSheetOf p0 p1 h5) fun v8 h9 =>
      if ¬ p2 = 0 then
        if ¬ p2 = (1 : Int32) then
          if ¬ p2 = (2 : Int32) then
            zf_b (zf_J 10 5 v8 h9) fun v11 =>
            zf_b (zf_put 10 5 v8 (.long (v11 &&& (v7 ^^^ (-1 : Int64)))) h9) fun h12 =>
            zf_b (zf_J 10 5 v8 h12) fun v13 =>
            zf_b2 (f_Long_bitCount v13 h12) fun v14 h15 =>
            some (.inl v14, h15)
          else
            zf_b (zf_J 10 5 v8 h9) fun v16 =>
            zf_b (zf_put 10 5 v8 (.long (v16 ||| v7)) h9) fun h17 =>
            zf_b (zf_J 10 5 v8 h17) fun v18 =>
            zf_b2 (f_Long_bitCount v18 h17) fun v19 h20 =>
            some (.inl v19, h20)
        else
          zf_b (zf_J 10 5 v8 h9) fun v21 =>
          zf_b (zf_put 10 5 v8 (.long (v21 &&& v7)) h9) fun h22 =>
          zf_b (zf_J 10 5 v8 h22) fun v23 =>
          zf_b2 (f_Long_bitCount v23 h22) fun v24 h25 =>
          some (.inl v24, h25)
      else
        zf_b (zf_put 10 5 v8 (.long v7) h9) fun h26 =>
        zf_b (zf_J 10 5 v8 h26) fun v27 =>
        zf_b2 (f_Long_bitCount v27 h26) fun v28 h29 =>
        some (.inl v28, h29)
    else
      if h2.length < zx_lim then some (.inr 14, h2 ++ [.inr (14, [])]) else none
set_option maxHeartbeats 4000000 in
set_option maxRecDepth 400000 in
theorem t_f_ColumnVault_choose {sc : (Nat × (Nat → Int32)) × Bool} {d : Nat} (p0 : Nat) (p1 : Int32) (p2 : Int32) (h : zx_H) (r : (Int32 ⊕ Nat)) (h' : zx_H) (hf : f_ColumnVault_choose p0 p1 p2 h = some (r, h')) : zx_T sc (d + 123) 51 (0, [(0, .ref p0), (1, .int p1), (2, .int p2)], []) h (zf_oIx r) h' := by
  unfold f_ColumnVault_choose at hf
  refine zv_p (k := 2) (f' := (2, [(0, .ref p0), (1, .int p1), (2, .int p2)], [.int p1, .ref p0])) zq_51 zo_51 (by with_unfolding_all rfl) ?_
  replace hf := zf_be hf
  obtain ⟨_, ho, hf⟩ := hf
  replace hf := zf_b3e hf
  obtain ⟨v1, h2, hv, hf⟩ | ⟨E3, h2, hv, hf⟩ := hf
  rotate_left
  · cases hf; exact zv_cx zq_51 zo_51 rfl rfl rfl rfl rfl (zv_cv rfl rfl rfl (zf_ise ho) rfl) (t_f_ColumnVault_sheetOf _ _ _ _ _ hv) rfl
  refine zv_c zq_51 zo_51 rfl rfl rfl rfl rfl (zv_cv rfl rfl rfl (zf_ise ho) rfl) (t_f_ColumnVault_sheetOf _ _ _ _ _ hv) ?_
  refine zv_p (k := 2) (f' := (7, [(0, .ref p0), (1, .int p1), (2, .int p2)], [.int p2])) zq_51 zo_51 (by with_unfolding_all rfl) ?_
  replace hf := zf_ite hf
  obtain ⟨hc, hf⟩ | ⟨hc, hf⟩ := hf
  · refine zv_brT (off := 8) (tt := 15) (r := []) zq_51 zo_51 hc rfl rfl rfl ?_
    replace hf := zf_ite hf
    obtain ⟨hc, hf⟩ | ⟨hc, hf⟩ := hf
    · cases hf; exact zv_t zq_51 zo_51 rfl rfl rfl rfl rfl rfl rfl rfl rfl hc
    · cases hf
  · refine zv_brF (off := 8) (tt := 15) (r := []) zq_51 zo_51 hc rfl rfl rfl ?_
    refine zv_p (k := 2) (f' := (12, [(0, .ref p0), (1, .int p1), (2, .int p2)], [.int (3 : Int32), .int p2])) zq_51 zo_51 (by with_unfolding_all rfl) ?_
    replace hf := zf_ite hf
    obtain ⟨hc, hf⟩ | ⟨hc, hf⟩ := hf
    · refine zv_brT (off := 13) (tt := 25) (r := []) zq_51 zo_51 hc rfl rfl rfl ?_
      refine zv_p (k := 2) (f' := (27, [(0, .ref p0), (1, .int p1), (2, .int p2)], [.int p1, .ref p0])) zq_51 zo_51 (by with_unfolding_all rfl) ?_
      replace hf := zf_be hf
      obtain ⟨_, ho, hf⟩ := hf
      replace hf := zf_b3e hf
      obtain ⟨v4, h5, hv, hf⟩ | ⟨E6, h5, hv, hf⟩ := hf
      rotate_left
      · cases hf; exact zv_cx zq_51 zo_51 rfl rfl rfl rfl rfl (zv_cv rfl rfl rfl (zf_ise ho) rfl) (t_f_ColumnVault_filterOf _ _ _ _ _ hv) rfl
      refine zv_c zq_51 zo_51 rfl rfl rfl rfl rfl (zv_cv rfl rfl rfl (zf_ise ho) rfl) (t_f_ColumnVault_filterOf _ _ _ _ _ hv) ?_
      replace hf := zf_be hf
      obtain ⟨v7, hv, hf⟩ := hf
      refine zv_gf zq_51 zo_51 rfl rfl rfl (zf_Je hv) ?_
      refine zv_p (k := 3) (f' := (36, [(3, .long v7), (0, .ref p0), (1, .int p1), (2, .int p2)], [.int p1, .ref p0])) zq_51 zo_51 (by with_unfolding_all rfl) ?_
      replace hf := zf_be hf
      obtain ⟨_, ho, hf⟩ := hf
      replace hf := zf_b3e hf
      obtain ⟨v8, h9, hv, hf⟩ | ⟨E10, h9, hv, hf⟩ := hf
      rotate_left
      · cases hf; exact zv_cx zq_51 zo_51 rfl rfl rfl rfl rfl (zv_cv rfl rfl rfl (zf_ise ho) rfl) (t_f_ColumnVault_nextSheetOf _ _ _ _ _ hv) rfl
      refine zv_c zq_51 zo_51 rfl rfl rfl rfl rfl (zv_cv rfl rfl rfl (zf_ise ho) rfl) (t_f_ColumnVault_nextSheetOf _ _ _ _ _ hv) ?_
      refine zv_p (k := 2) (f' := (42, [(5, .ref v8), (3, .long v7), (0, .ref p0), (1, .int p1), (2, .int p2)], [.int p2])) zq_51 zo_51 (by with_unfolding_all rfl) ?_
      replace hf := zf_ite hf
      obtain ⟨hc, hf⟩ | ⟨hc, hf⟩ := hf
      · refine zv_brT (off := 12) (tt := 54) (r := []) zq_51 zo_51 hc rfl rfl rfl ?_
        refine zv_p (k := 2) (f' := (56, [(5, .ref v8), (3, .long v7), (0, .ref p0), (1, .int p1), (2, .int p2)], [.int (1 : Int32), .int p2])) zq_51 zo_51 (by with_unfolding_all rfl) ?_
        replace hf := zf_ite hf
        obtain ⟨hc, hf⟩ | ⟨hc, hf⟩ := hf
        · refine zv_brT (off := 17) (tt := 73) (r := []) zq_51 zo_51 hc rfl rfl rfl ?_
          refine zv_p (k := 2) (f' := (75, [(5, .ref v8), (3, .long v7), (0, .ref p0), (1, .int p1), (2, .int p2)], [.int (2 : Int32), .int p2])) zq_51 zo_51 (by with_unfolding_all rfl) ?_
          replace hf := zf_ite hf
          obtain ⟨hc, hf⟩ | ⟨hc, hf⟩ := hf
          · refine zv_brT (off := 17) (tt := 92) (r := []) zq_51 zo_51 hc rfl rfl rfl ?_
            refine zv_p (k := 2) (f' := (95, [(5, .ref v8), (3, .long v7), (0, .ref p0), (1, .int p1), (2, .int p2)], [.ref v8, .ref v8])) zq_51 zo_51 (by with_unfolding_all rfl) ?_
            replace hf := zf_be hf
            obtain ⟨v11, hv, hf⟩ := hf
            refine zv_gf zq_51 zo_51 rfl rfl rfl (zf_Je hv) ?_
            refine zv_p (k := 1) (f' := (99, [(5, .ref v8), (3, .long v7), (0, .ref p0), (1, .int p1), (2, .int p2)], [.long v7, .long v11, .ref v8])) zq_51 zo_51 (by with_unfolding_all rfl) ?_
            refine zv_lng zq_51 zo_51 rfl rfl ?_
            refine zv_p (k := 2) (f' := (104, [(5, .ref v8), (3, .long v7), (0, .ref p0), (1, .int p1), (2, .int p2)], [.long (v11 &&& (v7 ^^^ (-1 : Int64))), .ref v8])) zq_51 zo_51 (by with_unfolding_all rfl) ?_
            replace hf := zf_be hf
            obtain ⟨h12, hv, hf⟩ := hf
            refine zv_pf zq_51 zo_51 rfl rfl rfl rfl hv ?_
            refine zv_p (k := 1) (f' := (109, [(5, .ref v8), (3, .long v7), (0, .ref p0), (1, .int p1), (2, .int p2)], [.ref v8])) zq_51 zo_51 (by with_unfolding_all rfl) ?_
            replace hf := zf_be hf
            obtain ⟨v13, hv, hf⟩ := hf
            refine zv_gf zq_51 zo_51 rfl rfl rfl (zf_Je hv) ?_
            replace hf := zf_b2e hf
            obtain ⟨v14, h15, hv, hf⟩ := hf
            refine zv_c zq_51 zo_51 rfl rfl rfl rfl rfl rfl (t_f_Long_bitCount _ _ _ _ hv) ?_
            cases hf
            exact zv_rn zq_51 zo_51 rfl rfl
          · refine zv_brF (off := 17) (tt := 92) (r := []) zq_51 zo_51 hc rfl rfl rfl ?_
            refine zv_p (k := 2) (f' := (81, [(5, .ref v8), (3, .long v7), (0, .ref p0), (1, .int p1), (2, .int p2)], [.ref v8, .ref v8])) zq_51 zo_51 (by with_unfolding_all rfl) ?_
            replace hf := zf_be hf
            obtain ⟨v16, hv, hf⟩ := hf
            refine zv_gf zq_51 zo_51 rfl rfl rfl (zf_Je hv) ?_
            refine zv_p (k := 2) (f' := (86, [(5, .ref v8), (3, .long v7), (0, .ref p0), (1, .int p1), (2, .int p2)], [.long (v16 ||| v7), .ref v8])) zq_51 zo_51 (by with_unfolding_all rfl) ?_
            replace hf := zf_be hf
            obtain ⟨h17, hv, hf⟩ := hf
            refine zv_pf zq_51 zo_51 rfl rfl rfl rfl hv ?_
            refine zv_p (k := 2) (f' := (109, [(5, .ref v8), (3, .long v7), (0, .ref p0), (1, .int p1), (2, .int p2)], [.ref v8])) zq_51 zo_51 (by with_unfolding_all rfl) ?_
            replace hf := zf_be hf
            obtain ⟨v18, hv, hf⟩ := hf
            refine zv_gf zq_51 zo_51 rfl rfl rfl (zf_Je hv) ?_
            replace hf := zf_b2e hf
            obtain ⟨v19, h20, hv, hf⟩ := hf
            refine zv_c zq_51 zo_51 rfl rfl rfl rfl rfl rfl (t_f_Long_bitCount _ _ _ _ hv) ?_
            cases hf
            exact zv_rn zq_51 zo_51 rfl rfl
        · refine zv_brF (off := 17) (tt := 73) (r := []) zq_51 zo_51 hc rfl rfl rfl ?_
          refine zv_p (k := 2) (f' := (62, [(5, .ref v8), (3, .long v7), (0, .ref p0), (1, .int p1), (2, .int p2)], [.ref v8, .ref v8])) zq_51 zo_51 (by with_unfolding_all rfl) ?_
          replace hf := zf_be hf
          obtain ⟨v21, hv, hf⟩ := hf
          refine zv_gf zq_51 zo_51 rfl rfl rfl (zf_Je hv) ?_
          refine zv_p (k := 2) (f' := (67, [(5, .ref v8), (3, .long v7), (0, .ref p0), (1, .int p1), (2, .int p2)], [.long (v21 &&& v7), .ref v8])) zq_51 zo_51 (by with_unfolding_all rfl) ?_
          replace hf := zf_be hf
          obtain ⟨h22, hv, hf⟩ := hf
          refine zv_pf zq_51 zo_51 rfl rfl rfl rfl hv ?_
          refine zv_p (k := 2) (f' := (109, [(5, .ref v8), (3, .long v7), (0, .ref p0), (1, .int p1), (2, .int p2)], [.ref v8])) zq_51 zo_51 (by with_unfolding_all rfl) ?_
          replace hf := zf_be hf
          obtain ⟨v23, hv, hf⟩ := hf
          refine zv_gf zq_51 zo_51 rfl rfl rfl (zf_Je hv) ?_
          replace hf := zf_b2e hf
          obtain ⟨v24, h25, hv, hf⟩ := hf
          refine zv_c zq_51 zo_51 rfl rfl rfl rfl rfl rfl (t_f_Long_bitCount _ _ _ _ hv) ?_
          cases hf
          exact zv_rn zq_51 zo_51 rfl rfl
      · refine zv_brF (off := 12) (tt := 54) (r := []) zq_51 zo_51 hc rfl rfl rfl ?_
        refine zv_p (k := 2) (f' := (48, [(5, .ref v8), (3, .long v7), (0, .ref p0), (1, .int p1), (2, .int p2)], [.long v7, .ref v8])) zq_51 zo_51 (by with_unfolding_all rfl) ?_
        replace hf := zf_be hf
        obtain ⟨h26, hv, hf⟩ := hf
        refine zv_pf zq_51 zo_51 rfl rfl rfl rfl hv ?_
        refine zv_p (k := 2) (f' := (109, [(5, .ref v8), (3, .long v7), (0, .ref p0), (1, .int p1), (2, .int p2)], [.ref v8])) zq_51 zo_51 (by with_unfolding_all rfl) ?_
        replace hf := zf_be hf
        obtain ⟨v27, hv, hf⟩ := hf
        refine zv_gf zq_51 zo_51 rfl rfl rfl (zf_Je hv) ?_
        replace hf := zf_b2e hf
        obtain ⟨v28, h29, hv, hf⟩ := hf
        refine zv_c zq_51 zo_51 rfl rfl rfl rfl rfl rfl (t_f_Long_bitCount _ _ _ _ hv) ?_
        cases hf
        exact zv_rn zq_51 zo_51 rfl rfl
    · refine zv_brF (off := 13) (tt := 25) (r := []) zq_51 zo_51 hc rfl rfl rfl ?_
      replace hf := zf_ite hf
      obtain ⟨hc, hf⟩ | ⟨hc, hf⟩ := hf
      · cases hf; exact zv_t zq_51 zo_51 rfl rfl rfl rfl rfl rfl rfl rfl rfl hc
      · cases hf
/-! ColumnVault.count (I)I -/
noncomputable def zI_86 : zd_T := [[(0, .aload_n 0, 1), (1, .iload_n 1, 1), (2, .invokevirtual 184, 3), (5, .getfield 188, 3), (8, .invokestatic 137, 3), (11, .ireturn, 1)]]
theorem zo_86 : zd_of 86 = some zI_86 := rfl
set_option maxRecDepth 100000 in
theorem zq_86 : zt_m[86]? = some (⟨"ColumnVault", "count", "(I)I"⟩, prog_1_method_18_code, 2, some (.int), [], 12, 1, 0, 0, 0, 0) := rfl
set_option maxHeartbeats 1000000 in
def f_ColumnVault_count (p0 : Nat) (p1 : Int32) (h : zx_H) : Option ((Int32 ⊕ Nat) × zx_H) :=
  zf_b (zf_is 12 p0 h) fun _ =>
  zf_b3 (f_ColumnVault_filterOf p0 p1 h) fun v1 h2 =>
  zf_b (zf_J 8 1 v1 h2) fun v4 =>
  zf_b2 (f_Long_bitCount v4 h2) fun v5 h6 =>
  some (.inl v5, h6)
set_option maxHeartbeats 4000000 in
set_option maxRecDepth 400000 in
theorem t_f_ColumnVault_count {sc : (Nat × (Nat → Int32)) × Bool} {d : Nat} (p0 : Nat) (p1 : Int32) (h : zx_H) (r : (Int32 ⊕ Nat)) (h' : zx_H) (hf : f_ColumnVault_count p0 p1 h = some (r, h')) : zx_T sc (d + 123) 86 (0, [(0, .ref p0), (1, .int p1)], []) h (zf_oIx r) h' := by
  unfold f_ColumnVault_count at hf
  refine zv_p (k := 2) (f' := (2, [(0, .ref p0), (1, .int p1)], [.int p1, .ref p0])) zq_86 zo_86 (by with_unfolding_all rfl) ?_
  replace hf := zf_be hf
  obtain ⟨_, ho, hf⟩ := hf
  replace hf := zf_b3e hf
  obtain ⟨v1, h2, hv, hf⟩ | ⟨E3, h2, hv, hf⟩ := hf
  rotate_left
  · cases hf; exact zv_cx zq_86 zo_86 rfl rfl rfl rfl rfl (zv_cv rfl rfl rfl (zf_ise ho) rfl) (t_f_ColumnVault_filterOf _ _ _ _ _ hv) rfl
  refine zv_c zq_86 zo_86 rfl rfl rfl rfl rfl (zv_cv rfl rfl rfl (zf_ise ho) rfl) (t_f_ColumnVault_filterOf _ _ _ _ _ hv) ?_
  replace hf := zf_be hf
  obtain ⟨v4, hv, hf⟩ := hf
  refine zv_gf zq_86 zo_86 rfl rfl rfl (zf_Je hv) ?_
  replace hf := zf_b2e hf
  obtain ⟨v5, h6, hv, hf⟩ := hf
  refine zv_c zq_86 zo_86 rfl rfl rfl rfl rfl rfl (t_f_Long_bitCount _ _ _ _ hv) ?_
  cases hf
  exact zv_rn zq_86 zo_86 rfl rfl
/-! ColumnVault.requireSameKind (II)V -/
noncomputable def zI_88 : zd_T := [[(0, .iload_n 0, 1), (1, .iload_n 1, 1), (2, .if_icmp .eq 14, 3), (5, .new 57, 3), (8, .dup, 1), (9, .ldc_w 387, 3), (12, .invokespecial 61, 3), (15, .athrow, 1), (16, .return_, 1)]]
theorem zo_88 : zd_of 88 = some zI_88 := rfl
set_option maxRecDepth 100000 in
theorem zq_88 : zt_m[88]? = some (⟨"ColumnVault", "requireSameKind", "(II)V"⟩, prog_1_method_52_code, 2, none, [], 12, 2, 0, 1, 99999, 0) := rfl
set_option maxHeartbeats 1000000 in
def f_ColumnVault_requireSameKind (p0 : Int32) (p1 : Int32) (h : zx_H) : Option ((Unit ⊕ Nat) × zx_H) :=
  if p0 = p1 then
    some (.inl (), h)
  else
    if h.length < zx_lim then some (.inr 14, h ++ [.inr (14, [])]) else none
set_option maxHeartbeats 4000000 in
set_option maxRecDepth 400000 in
theorem t_f_ColumnVault_requireSameKind {sc : (Nat × (Nat → Int32)) × Bool} {d : Nat} (p0 : Int32) (p1 : Int32) (h : zx_H) (r : (Unit ⊕ Nat)) (h' : zx_H) (hf : f_ColumnVault_requireSameKind p0 p1 h = some (r, h')) : zx_T sc d 88 (0, [(0, .int p0), (1, .int p1)], []) h (zf_oVx r) h' := by
  unfold f_ColumnVault_requireSameKind at hf
  refine zv_p (k := 2) (f' := (2, [(0, .int p0), (1, .int p1)], [.int p1, .int p0])) zq_88 zo_88 (by with_unfolding_all rfl) ?_
  replace hf := zf_ite hf
  obtain ⟨hc, hf⟩ | ⟨hc, hf⟩ := hf
  · refine zv_brT (off := 14) (tt := 16) (r := []) zq_88 zo_88 hc rfl rfl rfl ?_
    cases hf
    exact zv_r zq_88 zo_88 rfl rfl rfl rfl rfl
  · refine zv_brF (off := 14) (tt := 16) (r := []) zq_88 zo_88 hc rfl rfl rfl ?_
    replace hf := zf_ite hf
    obtain ⟨hc, hf⟩ | ⟨hc, hf⟩ := hf
    · cases hf; exact zv_tw zq_88 zo_88 rfl rfl rfl rfl rfl rfl rfl rfl rfl hc
    · cases hf
/-! ColumnVault.holdsRow (JI)Z -/
noncomputable def zI_90 : zd_T := [[(0, .iload_n 2, 1), (1, .ifCond .lt 23, 3), (4, .iload_n 2, 1), (5, .bipush 40, 2), (7, .if_icmp .ge 17, 3), (10, .lload_n 0, 1), (11, .iload_n 2, 1), (12, .lushr, 1), (13, .lconst 1, 1), (14, .land, 1), (15, .lconst 0, 1), (16, .lcmp, 1), (17, .ifCond .eq 7, 3), (20, .iconst 1, 1), (21, .goto 4, 3), (24, .iconst 0, 1), (25, .ireturn, 1)]]
theorem zo_90 : zd_of 90 = some zI_90 := rfl
set_option maxRecDepth 100000 in
theorem zq_90 : zt_m[90]? = some (⟨"ColumnVault", "holdsRow", "(JI)Z"⟩, prog_1_method_60_code, 3, some (.boolean), [], 12, 2, 0, 1, 99999, 0) := rfl
set_option maxHeartbeats 1000000 in
def f_ColumnVault_holdsRow (p0 : Int64) (p1 : Int32) (h : zx_H) : Option (Int32 × zx_H) :=
  if p1 < 0 then
    some ((0 : Int32), h)
  else
    if (40 : Int32) ≤ p1 then
      some ((0 : Int32), h)
    else
      if (((p0).toUInt64 >>> ((p1).toInt64.toUInt64 &&& Int64.toUInt64 63)).toInt64 &&& (1 : Int64)) = (0 : Int64) then
        some ((0 : Int32), h)
      else
        some ((1 : Int32), h)
set_option maxHeartbeats 4000000 in
set_option maxRecDepth 400000 in
theorem t_f_ColumnVault_holdsRow {sc : (Nat × (Nat → Int32)) × Bool} {d : Nat} (p0 : Int64) (p1 : Int32) (h : zx_H) (r : Int32) (h' : zx_H) (hf : f_ColumnVault_holdsRow p0 p1 h = some (r, h')) : zx_T sc d 90 (0, [(0, .long p0), (2, .int p1)], []) h (zf_oI r) h' := by
  unfold f_ColumnVault_holdsRow at hf
  refine zv_p (k := 1) (f' := (1, [(0, .long p0), (2, .int p1)], [.int p1])) zq_90 zo_90 (by with_unfolding_all rfl) ?_
  replace hf := zf_ite hf
  obtain ⟨hc, hf⟩ | ⟨hc, hf⟩ := hf
  · refine zv_brT (off := 23) (tt := 24) (r := []) zq_90 zo_90 hc rfl rfl rfl ?_
    refine zv_p (k := 1) (f' := (25, [(0, .long p0), (2, .int p1)], [.int (0 : Int32)])) zq_90 zo_90 (by with_unfolding_all rfl) ?_
    cases hf
    exact zv_rn zq_90 zo_90 rfl rfl
  · refine zv_brF (off := 23) (tt := 24) (r := []) zq_90 zo_90 hc rfl rfl rfl ?_
    refine zv_p (k := 2) (f' := (7, [(0, .long p0), (2, .int p1)], [.int (40 : Int32), .int p1])) zq_90 zo_90 (by with_unfolding_all rfl) ?_
    replace hf := zf_ite hf
    obtain ⟨hc, hf⟩ | ⟨hc, hf⟩ := hf
    · refine zv_brT (off := 17) (tt := 24) (r := []) zq_90 zo_90 hc rfl rfl rfl ?_
      refine zv_p (k := 1) (f' := (25, [(0, .long p0), (2, .int p1)], [.int (0 : Int32)])) zq_90 zo_90 (by with_unfolding_all rfl) ?_
      cases hf
      exact zv_rn zq_90 zo_90 rfl rfl
    · refine zv_brF (off := 17) (tt := 24) (r := []) zq_90 zo_90 hc rfl rfl rfl ?_
      refine zv_p (k := 7) (f' := (17, [(0, .long p0), (2, .int p1)], [.int (lg_cmp (((p0).toUInt64 >>> ((p1).toInt64.toUInt64 &&& Int64.toUInt64 63)).toInt64 &&& (1 : Int64)) (0 : Int64))])) zq_90 zo_90 (by with_unfolding_all rfl) ?_
      replace hf := zf_ite hf
      obtain ⟨hc, hf⟩ | ⟨hc, hf⟩ := hf
      · refine zv_brT (off := 7) (tt := 24) (r := []) zq_90 zo_90 (zl_eq.mpr hc) rfl rfl rfl ?_
        refine zv_p (k := 1) (f' := (25, [(0, .long p0), (2, .int p1)], [.int (0 : Int32)])) zq_90 zo_90 (by with_unfolding_all rfl) ?_
        cases hf
        exact zv_rn zq_90 zo_90 rfl rfl
      · refine zv_brF (off := 7) (tt := 24) (r := []) zq_90 zo_90 (mt zl_eq.mp hc) rfl rfl rfl ?_
        refine zv_p (k := 2) (f' := (25, [(0, .long p0), (2, .int p1)], [.int (1 : Int32)])) zq_90 zo_90 (by with_unfolding_all rfl) ?_
        cases hf
        exact zv_rn zq_90 zo_90 rfl rfl
/-! ColumnVault$Pairs.put (II)V -/
noncomputable def zI_92 : zd_T := [[(0, .aload_n 0, 1), (1, .getfield 18, 3), (4, .sipush 1600, 3), (7, .if_icmp .ge 33, 3), (10, .aload_n 0, 1), (11, .getfield 9, 3), (14, .aload_n 0, 1), (15, .getfield 18, 3), (18, .iload_n 1, 1), (19, .iastore, 1), (20, .aload_n 0, 1), (21, .getfield 15, 3), (24, .aload_n 0, 1), (25, .getfield 18, 3), (28, .iload_n 2, 1), (29, .iastore, 1), (30, .aload_n 0, 1), (31, .dup, 1)], [(32, .getfield 18, 3), (35, .iconst 1, 1), (36, .iadd, 1), (37, .putfield 18, 3), (40, .return_, 1)]]
theorem zo_92 : zd_of 92 = some zI_92 := rfl
set_option maxRecDepth 100000 in
theorem zq_92 : zt_m[92]? = some (⟨"ColumnVault$Pairs", "put", "(II)V"⟩, prog_9_method_4_code, 3, none, [], 9, 2, 0, 0, 0, 0) := rfl
set_option maxHeartbeats 1000000 in
def f_Pairs_put (p0 : Nat) (p1 : Int32) (p2 : Int32) (h : zx_H) : Option (Unit × zx_H) :=
  zf_b (zf_I 9 2 p0 h) fun v1 =>
  if (1600 : Int32) ≤ v1 then
    some ((), h)
  else
    zf_b (zf_A 9 0 p0 h) fun v2 =>
    zf_b (zf_I 9 2 p0 h) fun v3 =>
    zf_b (zf_stI v2 v3 p1 h) fun h4 =>
    zf_b (zf_A 9 1 p0 h4) fun v5 =>
    zf_b (zf_I 9 2 p0 h4) fun v6 =>
    zf_b (zf_stI v5 v6 p2 h4) fun h7 =>
    zf_b (zf_I 9 2 p0 h7) fun v8 =>
    zf_b (zf_put 9 2 p0 (.int (v8 + (1 : Int32))) h7) fun h9 =>
    some ((), h9)
set_option maxHeartbeats 4000000 in
set_option maxRecDepth 400000 in
theorem t_f_Pairs_put {sc : (Nat × (Nat → Int32)) × Bool} {d : Nat} (p0 : Nat) (p1 : Int32) (p2 : Int32) (h : zx_H) (r : Unit) (h' : zx_H) (hf : f_Pairs_put p0 p1 p2 h = some (r, h')) : zx_T sc d 92 (0, [(0, .ref p0), (1, .int p1), (2, .int p2)], []) h (zf_oV r) h' := by
  unfold f_Pairs_put at hf
  refine zv_p (k := 1) (f' := (1, [(0, .ref p0), (1, .int p1), (2, .int p2)], [.ref p0])) zq_92 zo_92 (by with_unfolding_all rfl) ?_
  replace hf := zf_be hf
  obtain ⟨v1, hv, hf⟩ := hf
  refine zv_gf zq_92 zo_92 rfl rfl rfl (zf_Ie hv) ?_
  refine zv_p (k := 1) (f' := (7, [(0, .ref p0), (1, .int p1), (2, .int p2)], [.int (1600 : Int32), .int v1])) zq_92 zo_92 (by with_unfolding_all rfl) ?_
  replace hf := zf_ite hf
  obtain ⟨hc, hf⟩ | ⟨hc, hf⟩ := hf
  · refine zv_brT (off := 33) (tt := 40) (r := []) zq_92 zo_92 hc rfl rfl rfl ?_
    cases hf
    exact zv_r zq_92 zo_92 rfl rfl rfl rfl rfl
  · refine zv_brF (off := 33) (tt := 40) (r := []) zq_92 zo_92 hc rfl rfl rfl ?_
    refine zv_p (k := 1) (f' := (11, [(0, .ref p0), (1, .int p1), (2, .int p2)], [.ref p0])) zq_92 zo_92 (by with_unfolding_all rfl) ?_
    replace hf := zf_be hf
    obtain ⟨v2, hv, hf⟩ := hf
    refine zv_gf zq_92 zo_92 rfl rfl rfl (zf_Ae hv) ?_
    refine zv_p (k := 1) (f' := (15, [(0, .ref p0), (1, .int p1), (2, .int p2)], [.ref p0, .ref v2])) zq_92 zo_92 (by with_unfolding_all rfl) ?_
    replace hf := zf_be hf
    obtain ⟨v3, hv, hf⟩ := hf
    refine zv_gf zq_92 zo_92 rfl rfl rfl (zf_Ie hv) ?_
    refine zv_p (k := 1) (f' := (19, [(0, .ref p0), (1, .int p1), (2, .int p2)], [.int p1, .int v3, .ref v2])) zq_92 zo_92 (by with_unfolding_all rfl) ?_
    replace hf := zf_be hf
    obtain ⟨h4, hv, hf⟩ := hf
    refine zv_stI zq_92 zo_92 rfl hv ?_
    refine zv_p (k := 1) (f' := (21, [(0, .ref p0), (1, .int p1), (2, .int p2)], [.ref p0])) zq_92 zo_92 (by with_unfolding_all rfl) ?_
    replace hf := zf_be hf
    obtain ⟨v5, hv, hf⟩ := hf
    refine zv_gf zq_92 zo_92 rfl rfl rfl (zf_Ae hv) ?_
    refine zv_p (k := 1) (f' := (25, [(0, .ref p0), (1, .int p1), (2, .int p2)], [.ref p0, .ref v5])) zq_92 zo_92 (by with_unfolding_all rfl) ?_
    replace hf := zf_be hf
    obtain ⟨v6, hv, hf⟩ := hf
    refine zv_gf zq_92 zo_92 rfl rfl rfl (zf_Ie hv) ?_
    refine zv_p (k := 1) (f' := (29, [(0, .ref p0), (1, .int p1), (2, .int p2)], [.int p2, .int v6, .ref v5])) zq_92 zo_92 (by with_unfolding_all rfl) ?_
    replace hf := zf_be hf
    obtain ⟨h7, hv, hf⟩ := hf
    refine zv_stI zq_92 zo_92 rfl hv ?_
    refine zv_p (k := 2) (f' := (32, [(0, .ref p0), (1, .int p1), (2, .int p2)], [.ref p0, .ref p0])) zq_92 zo_92 (by with_unfolding_all rfl) ?_
    replace hf := zf_be hf
    obtain ⟨v8, hv, hf⟩ := hf
    refine zv_gf zq_92 zo_92 rfl rfl rfl (zf_Ie hv) ?_
    refine zv_p (k := 2) (f' := (37, [(0, .ref p0), (1, .int p1), (2, .int p2)], [.int (v8 + (1 : Int32)), .ref p0])) zq_92 zo_92 (by with_unfolding_all rfl) ?_
    replace hf := zf_be hf
    obtain ⟨h9, hv, hf⟩ := hf
    refine zv_pf zq_92 zo_92 rfl rfl rfl rfl hv ?_
    cases hf
    exact zv_r zq_92 zo_92 rfl rfl rfl rfl rfl
/-! ColumnVault$Pairs.putRow (IJI)V -/
noncomputable def zI_91 : zd_T := [[(0, .lload_n 2, 1), (1, .lconst 0, 1), (2, .lcmp, 1), (3, .ifCond .ne 14, 3), (6, .iload 4, 2), (8, .ifCond .eq 9, 3), (11, .aload_n 0, 1), (12, .iload_n 1, 1), (13, .iconst (-1), 1), (14, .invokevirtual 49, 3), (17, .iconst 0, 1), (18, .istore 5, 2), (20, .iload 5, 2), (22, .bipush 40, 2), (24, .if_icmp .ge 31, 3), (27, .iload 4, 2), (29, .iconst 2, 1), (30, .if_icmp .eq 25, 3)], [(33, .lload_n 2, 1), (34, .iload 5, 2), (36, .invokestatic 31, 3), (39, .ifCond .eq 10, 3), (42, .aload_n 0, 1), (43, .iload_n 1, 1), (44, .iload 5, 2), (46, .invokevirtual 49, 3), (49, .iinc 5 1, 3), (52, .goto (-32), 3), (55, .return_, 1)]]
theorem zo_91 : zd_of 91 = some zI_91 := rfl
set_option maxRecDepth 100000 in
theorem zq_91 : zt_m[91]? = some (⟨"ColumnVault$Pairs", "putRow", "(IJI)V"⟩, prog_9_method_3_code, 6, none, [], 9, 3, 0, 0, 0, 0) := rfl
