set_option maxHeartbeats 1000000 in
def f_ColumnVaultLaw_isWrong (p0 : Nat) (p1 : Nat) (p2 : Int32) (h : zx_H) : Option ((Int32 ⊕ Nat) × zx_H) :=
  zf_b (zf_is 12 p0 h) fun _ =>
  zf_b3 (f_ColumnVault_size p0 p2 (1 : Int32) h) fun v1 h2 =>
  if v1 ≤ (1 : Int32) then
    f_ColumnVaultLaw_isWrong_27 p0 p1 p2 v1 (0 : Int32) h2
  else
    zf_b (zf_is 12 p0 h2) fun _ =>
    zf_b3 (f_ColumnVault_kind p0 p2 (1 : Int32) h2) fun v4 h5 =>
    if ¬ v4 = (1 : Int32) then
      f_ColumnVaultLaw_isWrong_27 p0 p1 p2 v1 (0 : Int32) h5
    else
      f_ColumnVaultLaw_isWrong_27 p0 p1 p2 v1 (1 : Int32) h5
set_option maxHeartbeats 4000000 in
set_option maxRecDepth 400000 in
theorem t_f_ColumnVaultLaw_isWrong {sc : (Nat × (Nat → Int32)) × Bool} {d : Nat} (p0 : Nat) (p1 : Nat) (p2 : Int32) (h : zx_H) (r : (Int32 ⊕ Nat)) (h' : zx_H) (hf : f_ColumnVaultLaw_isWrong p0 p1 p2 h = some (r, h')) : zx_T sc (d + 126) 283 (0, [(0, .ref p0), (1, .ref p1), (2, .int p2)], []) h (zf_oIx r) h' := by
  unfold f_ColumnVaultLaw_isWrong at hf
  refine zv_p (k := 3) (f' := (3, [(0, .ref p0), (1, .ref p1), (2, .int p2)], [.int (1 : Int32), .int p2, .ref p0])) zq_283 zo_283 (by with_unfolding_all rfl) ?_
  replace hf := zf_be hf
  obtain ⟨_, ho, hf⟩ := hf
  replace hf := zf_b3e hf
  obtain ⟨v1, h2, hv, hf⟩ | ⟨E3, h2, hv, hf⟩ := hf
  rotate_left
  · cases hf; exact zv_cx zq_283 zo_283 rfl rfl rfl rfl rfl (zv_cv rfl rfl rfl (zf_ise ho) rfl) (t_f_ColumnVault_size _ _ _ _ _ _ hv) rfl
  refine zv_c zq_283 zo_283 rfl rfl rfl rfl rfl (zv_cv rfl rfl rfl (zf_ise ho) rfl) (t_f_ColumnVault_size _ _ _ _ _ _ hv) ?_
  refine zv_p (k := 3) (f' := (9, [(3, .int v1), (0, .ref p0), (1, .ref p1), (2, .int p2)], [.int (1 : Int32), .int v1])) zq_283 zo_283 (by with_unfolding_all rfl) ?_
  replace hf := zf_ite hf
  obtain ⟨hc, hf⟩ | ⟨hc, hf⟩ := hf
  · refine zv_brT (off := 17) (tt := 26) (r := []) zq_283 zo_283 hc rfl rfl rfl ?_
    refine zv_p (k := 1) (f' := (27, [(3, .int v1), (0, .ref p0), (1, .ref p1), (2, .int p2)], [.int (0 : Int32)])) zq_283 zo_283 (by with_unfolding_all rfl) ?_
    refine zv_pick (lv' := [(0, .ref p0), (1, .ref p1), (2, .int p2), (3, .int v1)]) [0, 1, 2, 3] rfl rfl ?_
    exact t_f_ColumnVaultLaw_isWrong_27 _ _ _ _ _ _ _ _ hf
  · refine zv_brF (off := 17) (tt := 26) (r := []) zq_283 zo_283 hc rfl rfl rfl ?_
    refine zv_p (k := 3) (f' := (15, [(3, .int v1), (0, .ref p0), (1, .ref p1), (2, .int p2)], [.int (1 : Int32), .int p2, .ref p0])) zq_283 zo_283 (by with_unfolding_all rfl) ?_
    replace hf := zf_be hf
    obtain ⟨_, ho, hf⟩ := hf
    replace hf := zf_b3e hf
    obtain ⟨v4, h5, hv, hf⟩ | ⟨E6, h5, hv, hf⟩ := hf
    rotate_left
    · cases hf; exact zv_cx zq_283 zo_283 rfl rfl rfl rfl rfl (zv_cv rfl rfl rfl (zf_ise ho) rfl) (t_f_ColumnVault_kind _ _ _ _ _ _ hv) rfl
    refine zv_c zq_283 zo_283 rfl rfl rfl rfl rfl (zv_cv rfl rfl rfl (zf_ise ho) rfl) (t_f_ColumnVault_kind _ _ _ _ _ _ hv) ?_
    refine zv_p (k := 1) (f' := (19, [(3, .int v1), (0, .ref p0), (1, .ref p1), (2, .int p2)], [.int (1 : Int32), .int v4])) zq_283 zo_283 (by with_unfolding_all rfl) ?_
    replace hf := zf_ite hf
    obtain ⟨hc, hf⟩ | ⟨hc, hf⟩ := hf
    · refine zv_brT (off := 7) (tt := 26) (r := []) zq_283 zo_283 hc rfl rfl rfl ?_
      refine zv_p (k := 1) (f' := (27, [(3, .int v1), (0, .ref p0), (1, .ref p1), (2, .int p2)], [.int (0 : Int32)])) zq_283 zo_283 (by with_unfolding_all rfl) ?_
      refine zv_pick (lv' := [(0, .ref p0), (1, .ref p1), (2, .int p2), (3, .int v1)]) [0, 1, 2, 3] rfl rfl ?_
      exact t_f_ColumnVaultLaw_isWrong_27 _ _ _ _ _ _ _ _ hf
    · refine zv_brF (off := 7) (tt := 26) (r := []) zq_283 zo_283 hc rfl rfl rfl ?_
      refine zv_p (k := 2) (f' := (27, [(3, .int v1), (0, .ref p0), (1, .ref p1), (2, .int p2)], [.int (1 : Int32)])) zq_283 zo_283 (by with_unfolding_all rfl) ?_
      refine zv_pick (lv' := [(0, .ref p0), (1, .ref p1), (2, .int p2), (3, .int v1)]) [0, 1, 2, 3] rfl rfl ?_
      exact t_f_ColumnVaultLaw_isWrong_27 _ _ _ _ _ _ _ _ hf
/-! ColumnVault$JoinWays.init (LColumnVault$Sheet;ILColumnVault$Sheet;I)V -/
noncomputable def zI_286 : zd_T := [[(0, .aload_n 0, 1), (1, .invokespecial 3, 3), (4, .aload_n 0, 1), (5, .aload_n 1, 1), (6, .putfield 9, 3), (9, .aload_n 0, 1), (10, .iload_n 2, 1), (11, .putfield 15, 3), (14, .aload_n 0, 1), (15, .aload_n 3, 1), (16, .putfield 19, 3), (19, .aload_n 0, 1), (20, .iload 4, 2), (22, .putfield 22, 3), (25, .return_, 1)]]
theorem zo_286 : zd_of 286 = some zI_286 := rfl
set_option maxRecDepth 100000 in
theorem zq_286 : zt_m[286]? = some (⟨"ColumnVault$JoinWays", "<init>", "(LColumnVault$Sheet;ILColumnVault$Sheet;I)V"⟩, prog_7_method_1_code, 5, none, [], 7, 4, 0, 2, 99999, 0) := rfl
set_option maxHeartbeats 1000000 in
def f_JoinWays_init (p0 : Nat) (p1 : Nat) (p2 : Int32) (p3 : Nat) (p4 : Int32) (h : zx_H) : Option (Unit × zx_H) :=
  zf_b (zf_put 7 0 p0 (.ref p1) h) fun h1 =>
  zf_b (zf_put 7 1 p0 (.int p2) h1) fun h2 =>
  zf_b (zf_put 7 2 p0 (.ref p3) h2) fun h3 =>
  zf_b (zf_put 7 3 p0 (.int p4) h3) fun h4 =>
  some ((), h4)
set_option maxHeartbeats 4000000 in
set_option maxRecDepth 400000 in
theorem t_f_JoinWays_init {sc : (Nat × (Nat → Int32)) × Bool} {d : Nat} (p0 : Nat) (p1 : Nat) (p2 : Int32) (p3 : Nat) (p4 : Int32) (h : zx_H) (r : Unit) (h' : zx_H) (hf : f_JoinWays_init p0 p1 p2 p3 p4 h = some (r, h')) : zx_T sc d 286 (0, [(0, .ref p0), (1, .ref p1), (2, .int p2), (3, .ref p3), (4, .int p4)], []) h (zf_oV r) h' := by
  unfold f_JoinWays_init at hf
  refine zv_p (k := 1) (f' := (1, [(0, .ref p0), (1, .ref p1), (2, .int p2), (3, .ref p3), (4, .int p4)], [.ref p0])) zq_286 zo_286 (by with_unfolding_all rfl) ?_
  refine zv_oi zq_286 zo_286 rfl rfl rfl ?_
  refine zv_p (k := 2) (f' := (6, [(0, .ref p0), (1, .ref p1), (2, .int p2), (3, .ref p3), (4, .int p4)], [.ref p1, .ref p0])) zq_286 zo_286 (by with_unfolding_all rfl) ?_
  replace hf := zf_be hf
  obtain ⟨h1, hv, hf⟩ := hf
  refine zv_pf zq_286 zo_286 rfl rfl rfl rfl hv ?_
  refine zv_p (k := 2) (f' := (11, [(0, .ref p0), (1, .ref p1), (2, .int p2), (3, .ref p3), (4, .int p4)], [.int p2, .ref p0])) zq_286 zo_286 (by with_unfolding_all rfl) ?_
  replace hf := zf_be hf
  obtain ⟨h2, hv, hf⟩ := hf
  refine zv_pf zq_286 zo_286 rfl rfl rfl rfl hv ?_
  refine zv_p (k := 2) (f' := (16, [(0, .ref p0), (1, .ref p1), (2, .int p2), (3, .ref p3), (4, .int p4)], [.ref p3, .ref p0])) zq_286 zo_286 (by with_unfolding_all rfl) ?_
  replace hf := zf_be hf
  obtain ⟨h3, hv, hf⟩ := hf
  refine zv_pf zq_286 zo_286 rfl rfl rfl rfl hv ?_
  refine zv_p (k := 2) (f' := (22, [(0, .ref p0), (1, .ref p1), (2, .int p2), (3, .ref p3), (4, .int p4)], [.int p4, .ref p0])) zq_286 zo_286 (by with_unfolding_all rfl) ?_
  replace hf := zf_be hf
  obtain ⟨h4, hv, hf⟩ := hf
  refine zv_pf zq_286 zo_286 rfl rfl rfl rfl hv ?_
  cases hf
  exact zv_r zq_286 zo_286 rfl rfl rfl rfl rfl
/-! ColumnVault$JoinWays.rowsWithKeyFrom (arr IIJ)J -/
noncomputable def zI_289 : zd_T := [[(0, .lconst 0, 1), (1, .lstore 5, 2), (3, .iload_n 2, 1), (4, .iconst 0, 1), (5, .invokestatic 80, 3), (8, .istore 7, 2), (10, .iload 7, 2), (12, .aload_n 1, 1), (13, .arraylength, 1), (14, .if_icmp .ge 40, 3), (17, .aload_n 0, 1), (18, .getfield 19, 3), (21, .aload_n 0, 1), (22, .getfield 22, 3), (25, .aload_n 1, 1), (26, .iload 7, 2), (28, .iaload, 1), (29, .invokevirtual 55, 3)], [(32, .lload_n 3, 1), (33, .lcmp, 1), (34, .ifCond .ne 20, 3), (37, .lload 5, 2), (39, .lconst 1, 1), (40, .aload_n 1, 1), (41, .iload 7, 2), (43, .iaload, 1), (44, .lshl, 1), (45, .lor, 1), (46, .lstore 5, 2), (48, .iinc 7 1, 3), (51, .goto (-41), 3), (54, .lload 5, 2), (56, .lreturn, 1)]]
theorem zo_289 : zd_of 289 = some zI_289 := rfl
set_option maxRecDepth 100000 in
theorem zq_289 : zt_m[289]? = some (⟨"ColumnVault$JoinWays", "rowsWithKeyFrom", "([IIJ)J"⟩, prog_7_method_6_code, 8, some (.long), [], 7, 3, 0, 0, 0, 0) := rfl
set_option maxHeartbeats 1000000 in
def f_JoinWays_rowsWithKeyFrom_10 : Nat → Nat → Nat → Int64 → Int64 → Int32 → zx_H → Option (Int64 × zx_H)
  | 0, _, _, _, _, _, _ => none
  | n + 1, p0, p1, p2, p3, p4, h =>
    zf_b (zf_len p1 h) fun v1 =>
    if v1 ≤ p4 then
      some (p3, h)
    else
      zf_b (zf_A 7 2 p0 h) fun v2 =>
      zf_b (zf_I 7 3 p0 h) fun v3 =>
      zf_b (zf_ldI p1 p4 h) fun v4 =>
      zf_b (zf_is 10 v2 h) fun _ =>
      zf_b2 (f_Sheet_keyAt v2 v3 v4 h) fun v5 h6 =>
      if ¬ v5 = p2 then
        some (p3, h6)
      else
        zf_b (zf_ldI p1 p4 h6) fun v7 =>
        (f_JoinWays_rowsWithKeyFrom_10 n) p0 p1 p2 (p3 ||| ((1 : Int64) <<< ((v7).toInt64 &&& 63))) (p4 + (1 : Int32)) h6
set_option maxHeartbeats 4000000 in
set_option maxRecDepth 400000 in
theorem t_f_JoinWays_rowsWithKeyFrom_10 {sc : (Nat × (Nat → Int32)) × Bool} {d : Nat} : ∀ (n : Nat) (p0 : Nat) (p1 : Nat) (p2 : Int64) (p3 : Int64) (p4 : Int32) (h : zx_H) (r : Int64) (h' : zx_H), f_JoinWays_rowsWithKeyFrom_10 n p0 p1 p2 p3 p4 h = some (r, h') → zx_T sc (d + 1) 289 (10, [(0, .ref p0), (1, .ref p1), (3, .long p2), (5, .long p3), (7, .int p4)], []) h (zf_oJ r) h' := by
  intro n
  induction n with
  | zero => intro p0 p1 p2 p3 p4 h r h' hf; cases hf
  | succ n ih =>
    intro p0 p1 p2 p3 p4 h r h' hf
    unfold f_JoinWays_rowsWithKeyFrom_10 at hf
    refine zv_p (k := 2) (f' := (13, [(0, .ref p0), (1, .ref p1), (3, .long p2), (5, .long p3), (7, .int p4)], [.ref p1, .int p4])) zq_289 zo_289 (by with_unfolding_all rfl) ?_
    replace hf := zf_be hf
    obtain ⟨v1, hv, hf⟩ := hf
    refine zv_len zq_289 zo_289 rfl hv ?_
    replace hf := zf_ite hf
    obtain ⟨hc, hf⟩ | ⟨hc, hf⟩ := hf
    · refine zv_brT (off := 40) (tt := 54) (r := []) zq_289 zo_289 hc rfl rfl rfl ?_
      refine zv_p (k := 1) (f' := (56, [(0, .ref p0), (1, .ref p1), (3, .long p2), (5, .long p3), (7, .int p4)], [.long p3])) zq_289 zo_289 (by with_unfolding_all rfl) ?_
      cases hf
      exact zv_r zq_289 zo_289 rfl rfl rfl rfl rfl
    · refine zv_brF (off := 40) (tt := 54) (r := []) zq_289 zo_289 hc rfl rfl rfl ?_
      refine zv_p (k := 1) (f' := (18, [(0, .ref p0), (1, .ref p1), (3, .long p2), (5, .long p3), (7, .int p4)], [.ref p0])) zq_289 zo_289 (by with_unfolding_all rfl) ?_
      replace hf := zf_be hf
      obtain ⟨v2, hv, hf⟩ := hf
      refine zv_gf zq_289 zo_289 rfl rfl rfl (zf_Ae hv) ?_
      refine zv_p (k := 1) (f' := (22, [(0, .ref p0), (1, .ref p1), (3, .long p2), (5, .long p3), (7, .int p4)], [.ref p0, .ref v2])) zq_289 zo_289 (by with_unfolding_all rfl) ?_
      replace hf := zf_be hf
      obtain ⟨v3, hv, hf⟩ := hf
      refine zv_gf zq_289 zo_289 rfl rfl rfl (zf_Ie hv) ?_
      refine zv_p (k := 2) (f' := (28, [(0, .ref p0), (1, .ref p1), (3, .long p2), (5, .long p3), (7, .int p4)], [.int p4, .ref p1, .int v3, .ref v2])) zq_289 zo_289 (by with_unfolding_all rfl) ?_
      replace hf := zf_be hf
      obtain ⟨v4, hv, hf⟩ := hf
      refine zv_ldI zq_289 zo_289 rfl hv ?_
      replace hf := zf_be hf
      obtain ⟨_, ho, hf⟩ := hf
      replace hf := zf_b2e hf
      obtain ⟨v5, h6, hv, hf⟩ := hf
      refine zv_c zq_289 zo_289 rfl rfl rfl rfl rfl (zv_cv rfl rfl rfl (zf_ise ho) rfl) (t_f_Sheet_keyAt _ _ _ _ _ _ hv) ?_
      refine zv_p (k := 2) (f' := (34, [(0, .ref p0), (1, .ref p1), (3, .long p2), (5, .long p3), (7, .int p4)], [.int (lg_cmp v5 p2)])) zq_289 zo_289 (by with_unfolding_all rfl) ?_
      replace hf := zf_ite hf
      obtain ⟨hc, hf⟩ | ⟨hc, hf⟩ := hf
      · refine zv_brT (off := 20) (tt := 54) (r := []) zq_289 zo_289 (zl_ne.mpr hc) rfl rfl rfl ?_
        refine zv_p (k := 1) (f' := (56, [(0, .ref p0), (1, .ref p1), (3, .long p2), (5, .long p3), (7, .int p4)], [.long p3])) zq_289 zo_289 (by with_unfolding_all rfl) ?_
        cases hf
        exact zv_r zq_289 zo_289 rfl rfl rfl rfl rfl
      · refine zv_brF (off := 20) (tt := 54) (r := []) zq_289 zo_289 (mt zl_ne.mp hc) rfl rfl rfl ?_
        refine zv_p (k := 4) (f' := (43, [(0, .ref p0), (1, .ref p1), (3, .long p2), (5, .long p3), (7, .int p4)], [.int p4, .ref p1, .long (1 : Int64), .long p3])) zq_289 zo_289 (by with_unfolding_all rfl) ?_
        replace hf := zf_be hf
        obtain ⟨v7, hv, hf⟩ := hf
        refine zv_ldI zq_289 zo_289 rfl hv ?_
        refine zv_p (k := 5) (f' := (10, [(7, .int (p4 + (1 : Int32))), (5, .long (p3 ||| ((1 : Int64) <<< ((v7).toInt64 &&& 63)))), (0, .ref p0), (1, .ref p1), (3, .long p2)], [])) zq_289 zo_289 (by with_unfolding_all rfl) ?_
        refine zv_pick (lv' := [(0, .ref p0), (1, .ref p1), (3, .long p2), (5, .long (p3 ||| ((1 : Int64) <<< ((v7).toInt64 &&& 63)))), (7, .int (p4 + (1 : Int32)))]) [0, 1, 3, 5, 7] rfl rfl ?_
        exact ih _ _ _ _ _ _ _ _ hf
set_option maxHeartbeats 1000000 in
def f_JoinWays_rowsWithKeyFrom (p0 : Nat) (p1 : Nat) (p2 : Int32) (p3 : Int64) (h : zx_H) : Option (Int64 × zx_H) :=
  f_JoinWays_rowsWithKeyFrom_10 zF p0 p1 p3 (0 : Int64) (if p2 < (0 : Int32) then (0 : Int32) else p2) h
set_option maxHeartbeats 4000000 in
set_option maxRecDepth 400000 in
theorem t_f_JoinWays_rowsWithKeyFrom {sc : (Nat × (Nat → Int32)) × Bool} {d : Nat} (p0 : Nat) (p1 : Nat) (p2 : Int32) (p3 : Int64) (h : zx_H) (r : Int64) (h' : zx_H) (hf : f_JoinWays_rowsWithKeyFrom p0 p1 p2 p3 h = some (r, h')) : zx_T sc (d + 1) 289 (0, [(0, .ref p0), (1, .ref p1), (2, .int p2), (3, .long p3)], []) h (zf_oJ r) h' := by
  unfold f_JoinWays_rowsWithKeyFrom at hf
  refine zv_p (k := 4) (f' := (5, [(5, .long (0 : Int64)), (0, .ref p0), (1, .ref p1), (2, .int p2), (3, .long p3)], [.int (0 : Int32), .int p2])) zq_289 zo_289 (by with_unfolding_all rfl) ?_
  refine zv_mm0 zq_289 zo_289 rfl rfl rfl ?_
  refine zv_p (k := 1) (f' := (10, [(7, .int (if p2 < (0 : Int32) then (0 : Int32) else p2)), (5, .long (0 : Int64)), (0, .ref p0), (1, .ref p1), (2, .int p2), (3, .long p3)], [])) zq_289 zo_289 (by with_unfolding_all rfl) ?_
  refine zv_pick (lv' := [(0, .ref p0), (1, .ref p1), (3, .long p3), (5, .long (0 : Int64)), (7, .int (if p2 < (0 : Int32) then (0 : Int32) else p2))]) [0, 1, 3, 5, 7] rfl rfl ?_
  exact t_f_JoinWays_rowsWithKeyFrom_10 zF _ _ _ _ _ _ _ _ hf
/-! ColumnVault$JoinWays.byMerging (arr Iarr I)arr J -/
noncomputable def zI_288 : zd_T := [[(0, .bipush 40, 2), (2, .newarray .long, 2), (4, .astore_n 3, 1), (5, .iconst 0, 1), (6, .istore 4, 2), (8, .iconst 0, 1), (9, .istore 5, 2), (11, .iload 5, 2), (13, .aload_n 1, 1), (14, .arraylength, 1), (15, .if_icmp .ge 89, 3), (18, .aload_n 1, 1), (19, .iload 5, 2), (21, .iaload, 1), (22, .istore 6, 2), (24, .aload_n 0, 1), (25, .getfield 9, 3), (28, .aload_n 0, 1), (29, .getfield 15, 3)], [(32, .iload 6, 2), (34, .invokevirtual 55, 3), (37, .lstore 7, 2), (39, .iload 4, 2), (41, .aload_n 2, 1), (42, .arraylength, 1), (43, .if_icmp .ge 30, 3), (46, .aload_n 0, 1), (47, .getfield 19, 3), (50, .aload_n 0, 1), (51, .getfield 22, 3), (54, .aload_n 2, 1), (55, .iload 4, 2), (57, .iaload, 1), (58, .invokevirtual 55, 3), (61, .lload 7, 2), (63, .lcmp, 1)], [(64, .ifCond .ge 9, 3), (67, .iinc 4 1, 3), (70, .goto (-31), 3), (73, .aload_n 0, 1), (74, .getfield 9, 3), (77, .iload 6, 2), (79, .invokevirtual 59, 3), (82, .ifCond .eq 16, 3), (85, .aload_n 3, 1), (86, .iload 6, 2), (88, .aload_n 0, 1), (89, .aload_n 2, 1), (90, .iload 4, 2), (92, .lload 7, 2), (94, .invokevirtual 63, 3)], [(97, .lastore, 1), (98, .iinc 5 1, 3), (101, .goto (-90), 3), (104, .aload_n 3, 1), (105, .areturn, 1)]]
theorem zo_288 : zd_of 288 = some zI_288 := rfl
set_option maxRecDepth 100000 in
theorem zq_288 : zt_m[288]? = some (⟨"ColumnVault$JoinWays", "byMerging", "([I[I)[J"⟩, prog_7_method_3_code, 9, some (.array (.long)), [], 7, 2, 0, 0, 0, 0) := rfl
set_option maxHeartbeats 1000000 in
def f_JoinWays_byMerging_73 (k11 : Nat → Nat → Nat → Nat → Int32 → Int32 → zx_H → Option (Nat × zx_H)) (p0 : Nat) (p1 : Nat) (p2 : Nat) (p3 : Nat) (p4 : Int32) (p5 : Int32) (p6 : Int32) (p7 : Int64) (h : zx_H) : Option (Nat × zx_H) :=
  zf_b (zf_A 7 0 p0 h) fun v1 =>
  zf_b (zf_is 10 v1 h) fun _ =>
  zf_b2 (f_Sheet_hasRow v1 p6 h) fun v2 h3 =>
  if v2 = 0 then
    k11 p0 p1 p2 p3 p4 (p5 + (1 : Int32)) h3
  else
    zf_b (zf_is 7 p0 h3) fun _ =>
    zf_b2 (f_JoinWays_rowsWithKeyFrom p0 p2 p4 p7 h3) fun v4 h5 =>
    zf_b (zf_stJ p3 p6 v4 h5) fun h6 =>
    k11 p0 p1 p2 p3 p4 (p5 + (1 : Int32)) h6
set_option maxHeartbeats 4000000 in
set_option maxRecDepth 400000 in
theorem t_f_JoinWays_byMerging_73 {sc : (Nat × (Nat → Int32)) × Bool} {d : Nat} {k11 : Nat → Nat → Nat → Nat → Int32 → Int32 → zx_H → Option (Nat × zx_H)} (hk11 : ∀ (a0 : Nat) (a1 : Nat) (a2 : Nat) (a3 : Nat) (a4 : Int32) (a5 : Int32) (h : zx_H) (r : Nat) (h' : zx_H), k11 a0 a1 a2 a3 a4 a5 h = some (r, h') → zx_T sc (d + 2) 288 (11, [(0, .ref a0), (1, .ref a1), (2, .ref a2), (3, .ref a3), (4, .int a4), (5, .int a5)], []) h (zf_oA r) h') (p0 : Nat) (p1 : Nat) (p2 : Nat) (p3 : Nat) (p4 : Int32) (p5 : Int32) (p6 : Int32) (p7 : Int64) (h : zx_H) (r : Nat) (h' : zx_H) (hf : f_JoinWays_byMerging_73 k11 p0 p1 p2 p3 p4 p5 p6 p7 h = some (r, h')) : zx_T sc (d + 2) 288 (73, [(0, .ref p0), (1, .ref p1), (2, .ref p2), (3, .ref p3), (4, .int p4), (5, .int p5), (6, .int p6), (7, .long p7)], []) h (zf_oA r) h' := by
  unfold f_JoinWays_byMerging_73 at hf
  refine zv_p (k := 1) (f' := (74, [(0, .ref p0), (1, .ref p1), (2, .ref p2), (3, .ref p3), (4, .int p4), (5, .int p5), (6, .int p6), (7, .long p7)], [.ref p0])) zq_288 zo_288 (by with_unfolding_all rfl) ?_
  replace hf := zf_be hf
  obtain ⟨v1, hv, hf⟩ := hf
  refine zv_gf zq_288 zo_288 rfl rfl rfl (zf_Ae hv) ?_
  refine zv_p (k := 1) (f' := (79, [(0, .ref p0), (1, .ref p1), (2, .ref p2), (3, .ref p3), (4, .int p4), (5, .int p5), (6, .int p6), (7, .long p7)], [.int p6, .ref v1])) zq_288 zo_288 (by with_unfolding_all rfl) ?_
  replace hf := zf_be hf
  obtain ⟨_, ho, hf⟩ := hf
  replace hf := zf_b2e hf
  obtain ⟨v2, h3, hv, hf⟩ := hf
  refine zv_c zq_288 zo_288 rfl rfl rfl rfl rfl (zv_cv rfl rfl rfl (zf_ise ho) rfl) (t_f_Sheet_hasRow _ _ _ _ _ hv) ?_
  replace hf := zf_ite hf
  obtain ⟨hc, hf⟩ | ⟨hc, hf⟩ := hf
  · refine zv_brT (off := 16) (tt := 98) (r := []) zq_288 zo_288 hc rfl rfl rfl ?_
    refine zv_p (k := 2) (f' := (11, [(5, .int (p5 + (1 : Int32))), (0, .ref p0), (1, .ref p1), (2, .ref p2), (3, .ref p3), (4, .int p4), (6, .int p6), (7, .long p7)], [])) zq_288 zo_288 (by with_unfolding_all rfl) ?_
    refine zv_pick (lv' := [(0, .ref p0), (1, .ref p1), (2, .ref p2), (3, .ref p3), (4, .int p4), (5, .int (p5 + (1 : Int32)))]) [0, 1, 2, 3, 4, 5] rfl rfl ?_
    exact hk11 _ _ _ _ _ _ _ _ _ hf
  · refine zv_brF (off := 16) (tt := 98) (r := []) zq_288 zo_288 hc rfl rfl rfl ?_
    refine zv_p (k := 6) (f' := (94, [(0, .ref p0), (1, .ref p1), (2, .ref p2), (3, .ref p3), (4, .int p4), (5, .int p5), (6, .int p6), (7, .long p7)], [.long p7, .int p4, .ref p2, .ref p0, .int p6, .ref p3])) zq_288 zo_288 (by with_unfolding_all rfl) ?_
    replace hf := zf_be hf
    obtain ⟨_, ho, hf⟩ := hf
    replace hf := zf_b2e hf
    obtain ⟨v4, h5, hv, hf⟩ := hf
    refine zv_c zq_288 zo_288 rfl rfl rfl rfl rfl (zv_cv rfl rfl rfl (zf_ise ho) rfl) (t_f_JoinWays_rowsWithKeyFrom _ _ _ _ _ _ _ hv) ?_
    replace hf := zf_be hf
    obtain ⟨h6, hv, hf⟩ := hf
    refine zv_stJ zq_288 zo_288 rfl hv ?_
    refine zv_p (k := 2) (f' := (11, [(5, .int (p5 + (1 : Int32))), (0, .ref p0), (1, .ref p1), (2, .ref p2), (3, .ref p3), (4, .int p4), (6, .int p6), (7, .long p7)], [])) zq_288 zo_288 (by with_unfolding_all rfl) ?_
    refine zv_pick (lv' := [(0, .ref p0), (1, .ref p1), (2, .ref p2), (3, .ref p3), (4, .int p4), (5, .int (p5 + (1 : Int32)))]) [0, 1, 2, 3, 4, 5] rfl rfl ?_
    exact hk11 _ _ _ _ _ _ _ _ _ hf
set_option maxHeartbeats 1000000 in
def f_JoinWays_byMerging_39 (k11 : Nat → Nat → Nat → Nat → Int32 → Int32 → zx_H → Option (Nat × zx_H)) : Nat → Nat → Nat → Nat → Nat → Int32 → Int32 → Int32 → Int64 → zx_H → Option (Nat × zx_H)
  | 0, _, _, _, _, _, _, _, _, _ => none
  | n + 1, p0, p1, p2, p3, p4, p5, p6, p7, h =>
    zf_b (zf_len p2 h) fun v1 =>
    if v1 ≤ p4 then
      f_JoinWays_byMerging_73 k11 p0 p1 p2 p3 p4 p5 p6 p7 h
    else
      zf_b (zf_A 7 2 p0 h) fun v2 =>
      zf_b (zf_I 7 3 p0 h) fun v3 =>
      zf_b (zf_ldI p2 p4 h) fun v4 =>
      zf_b (zf_is 10 v2 h) fun _ =>
      zf_b2 (f_Sheet_keyAt v2 v3 v4 h) fun v5 h6 =>
      if p7 ≤ v5 then
        f_JoinWays_byMerging_73 k11 p0 p1 p2 p3 p4 p5 p6 p7 h6
      else
        (f_JoinWays_byMerging_39 k11 n) p0 p1 p2 p3 (p4 + (1 : Int32)) p5 p6 p7 h6
set_option maxHeartbeats 4000000 in
set_option maxRecDepth 400000 in
theorem t_f_JoinWays_byMerging_39 {sc : (Nat × (Nat → Int32)) × Bool} {d : Nat} {k11 : Nat → Nat → Nat → Nat → Int32 → Int32 → zx_H → Option (Nat × zx_H)} (hk11 : ∀ (a0 : Nat) (a1 : Nat) (a2 : Nat) (a3 : Nat) (a4 : Int32) (a5 : Int32) (h : zx_H) (r : Nat) (h' : zx_H), k11 a0 a1 a2 a3 a4 a5 h = some (r, h') → zx_T sc (d + 2) 288 (11, [(0, .ref a0), (1, .ref a1), (2, .ref a2), (3, .ref a3), (4, .int a4), (5, .int a5)], []) h (zf_oA r) h') : ∀ (n : Nat) (p0 : Nat) (p1 : Nat) (p2 : Nat) (p3 : Nat) (p4 : Int32) (p5 : Int32) (p6 : Int32) (p7 : Int64) (h : zx_H) (r : Nat) (h' : zx_H), f_JoinWays_byMerging_39 k11 n p0 p1 p2 p3 p4 p5 p6 p7 h = some (r, h') → zx_T sc (d + 2) 288 (39, [(0, .ref p0), (1, .ref p1), (2, .ref p2), (3, .ref p3), (4, .int p4), (5, .int p5), (6, .int p6), (7, .long p7)], []) h (zf_oA r) h' := by
  intro n
  induction n with
  | zero => intro p0 p1 p2 p3 p4 p5 p6 p7 h r h' hf; cases hf
  | succ n ih =>
    intro p0 p1 p2 p3 p4 p5 p6 p7 h r h' hf
    unfold f_JoinWays_byMerging_39 at hf
    refine zv_p (k := 2) (f' := (42, [(0, .ref p0), (1, .ref p1), (2, .ref p2), (3, .ref p3), (4, .int p4), (5, .int p5), (6, .int p6), (7, .long p7)], [.ref p2, .int p4])) zq_288 zo_288 (by with_unfolding_all rfl) ?_
    replace hf := zf_be hf
    obtain ⟨v1, hv, hf⟩ := hf
    refine zv_len zq_288 zo_288 rfl hv ?_
    replace hf := zf_ite hf
    obtain ⟨hc, hf⟩ | ⟨hc, hf⟩ := hf
    · refine zv_brT (off := 30) (tt := 73) (r := []) zq_288 zo_288 hc rfl rfl rfl ?_
      refine zv_pick (lv' := [(0, .ref p0), (1, .ref p1), (2, .ref p2), (3, .ref p3), (4, .int p4), (5, .int p5), (6, .int p6), (7, .long p7)]) [0, 1, 2, 3, 4, 5, 6, 7] rfl rfl ?_
      exact t_f_JoinWays_byMerging_73 hk11 _ _ _ _ _ _ _ _ _ _ _ hf
    · refine zv_brF (off := 30) (tt := 73) (r := []) zq_288 zo_288 hc rfl rfl rfl ?_
      refine zv_p (k := 1) (f' := (47, [(0, .ref p0), (1, .ref p1), (2, .ref p2), (3, .ref p3), (4, .int p4), (5, .int p5), (6, .int p6), (7, .long p7)], [.ref p0])) zq_288 zo_288 (by with_unfolding_all rfl) ?_
      replace hf := zf_be hf
      obtain ⟨v2, hv, hf⟩ := hf
      refine zv_gf zq_288 zo_288 rfl rfl rfl (zf_Ae hv) ?_
      refine zv_p (k := 1) (f' := (51, [(0, .ref p0), (1, .ref p1), (2, .ref p2), (3, .ref p3), (4, .int p4), (5, .int p5), (6, .int p6), (7, .long p7)], [.ref p0, .ref v2])) zq_288 zo_288 (by with_unfolding_all rfl) ?_
      replace hf := zf_be hf
      obtain ⟨v3, hv, hf⟩ := hf
      refine zv_gf zq_288 zo_288 rfl rfl rfl (zf_Ie hv) ?_
      refine zv_p (k := 2) (f' := (57, [(0, .ref p0), (1, .ref p1), (2, .ref p2), (3, .ref p3), (4, .int p4), (5, .int p5), (6, .int p6), (7, .long p7)], [.int p4, .ref p2, .int v3, .ref v2])) zq_288 zo_288 (by with_unfolding_all rfl) ?_
      replace hf := zf_be hf
      obtain ⟨v4, hv, hf⟩ := hf
      refine zv_ldI zq_288 zo_288 rfl hv ?_
      replace hf := zf_be hf
      obtain ⟨_, ho, hf⟩ := hf
      replace hf := zf_b2e hf
      obtain ⟨v5, h6, hv, hf⟩ := hf
      refine zv_c zq_288 zo_288 rfl rfl rfl rfl rfl (zv_cv rfl rfl rfl (zf_ise ho) rfl) (t_f_Sheet_keyAt _ _ _ _ _ _ hv) ?_
      refine zv_p (k := 2) (f' := (64, [(0, .ref p0), (1, .ref p1), (2, .ref p2), (3, .ref p3), (4, .int p4), (5, .int p5), (6, .int p6), (7, .long p7)], [.int (lg_cmp v5 p7)])) zq_288 zo_288 (by with_unfolding_all rfl) ?_
      replace hf := zf_ite hf
      obtain ⟨hc, hf⟩ | ⟨hc, hf⟩ := hf
      · refine zv_brT (off := 9) (tt := 73) (r := []) zq_288 zo_288 (zl_ge.mpr hc) rfl rfl rfl ?_
        refine zv_pick (lv' := [(0, .ref p0), (1, .ref p1), (2, .ref p2), (3, .ref p3), (4, .int p4), (5, .int p5), (6, .int p6), (7, .long p7)]) [0, 1, 2, 3, 4, 5, 6, 7] rfl rfl ?_
        exact t_f_JoinWays_byMerging_73 hk11 _ _ _ _ _ _ _ _ _ _ _ hf
      · refine zv_brF (off := 9) (tt := 73) (r := []) zq_288 zo_288 (mt zl_ge.mp hc) rfl rfl rfl ?_
        refine zv_p (k := 2) (f' := (39, [(4, .int (p4 + (1 : Int32))), (0, .ref p0), (1, .ref p1), (2, .ref p2), (3, .ref p3), (5, .int p5), (6, .int p6), (7, .long p7)], [])) zq_288 zo_288 (by with_unfolding_all rfl) ?_
        refine zv_pick (lv' := [(0, .ref p0), (1, .ref p1), (2, .ref p2), (3, .ref p3), (4, .int (p4 + (1 : Int32))), (5, .int p5), (6, .int p6), (7, .long p7)]) [0, 1, 2, 3, 4, 5, 6, 7] rfl rfl ?_
        exact ih _ _ _ _ _ _ _ _ _ _ _ hf
set_option maxHeartbeats 1000000 in
def f_JoinWays_byMerging_11 : Nat → Nat → Nat → Nat → Nat → Int32 → Int32 → zx_H → Option (Nat × zx_H)
  | 0, _, _, _, _, _, _, _ => none
  | n + 1, p0, p1, p2, p3, p4, p5, h =>
    zf_b (zf_len p1 h) fun v1 =>
    if v1 ≤ p5 then
      some (p3, h)
    else
      zf_b (zf_ldI p1 p5 h) fun v2 =>
      zf_b (zf_A 7 0 p0 h) fun v3 =>
      zf_b (zf_I 7 1 p0 h) fun v4 =>
      zf_b (zf_is 10 v3 h) fun _ =>
      zf_b2 (f_Sheet_keyAt v3 v4 v2 h) fun v5 h6 =>
      f_JoinWays_byMerging_39 (f_JoinWays_byMerging_11 n) zF p0 p1 p2 p3 p4 p5 v2 v5 h6
set_option maxHeartbeats 4000000 in
set_option maxRecDepth 400000 in
theorem t_f_JoinWays_byMerging_11 {sc : (Nat × (Nat → Int32)) × Bool} {d : Nat} : ∀ (n : Nat) (p0 : Nat) (p1 : Nat) (p2 : Nat) (p3 : Nat) (p4 : Int32) (p5 : Int32) (h : zx_H) (r : Nat) (h' : zx_H), f_JoinWays_byMerging_11 n p0 p1 p2 p3 p4 p5 h = some (r, h') → zx_T sc (d + 2) 288 (11, [(0, .ref p0), (1, .ref p1), (2, .ref p2), (3, .ref p3), (4, .int p4), (5, .int p5)], []) h (zf_oA r) h' := by
  intro n
  induction n with
  | zero => intro p0 p1 p2 p3 p4 p5 h r h' hf; cases hf
  | succ n ih =>
    intro p0 p1 p2 p3 p4 p5 h r h' hf
    unfold f_JoinWays_byMerging_11 at hf
    refine zv_p (k := 2) (f' := (14, [(0, .ref p0), (1, .ref p1), (2, .ref p2), (3, .ref p3), (4, .int p4), (5, .int p5)], [.ref p1, .int p5])) zq_288 zo_288 (by with_unfolding_all rfl) ?_
    replace hf := zf_be hf
    obtain ⟨v1, hv, hf⟩ := hf
    refine zv_len zq_288 zo_288 rfl hv ?_
    replace hf := zf_ite hf
    obtain ⟨hc, hf⟩ | ⟨hc, hf⟩ := hf
    · refine zv_brT (off := 89) (tt := 104) (r := []) zq_288 zo_288 hc rfl rfl rfl ?_
      refine zv_p (k := 1) (f' := (105, [(0, .ref p0), (1, .ref p1), (2, .ref p2), (3, .ref p3), (4, .int p4), (5, .int p5)], [.ref p3])) zq_288 zo_288 (by with_unfolding_all rfl) ?_
      cases hf
      exact zv_r zq_288 zo_288 rfl rfl rfl rfl rfl
    · refine zv_brF (off := 89) (tt := 104) (r := []) zq_288 zo_288 hc rfl rfl rfl ?_
      refine zv_p (k := 2) (f' := (21, [(0, .ref p0), (1, .ref p1), (2, .ref p2), (3, .ref p3), (4, .int p4), (5, .int p5)], [.int p5, .ref p1])) zq_288 zo_288 (by with_unfolding_all rfl) ?_
      replace hf := zf_be hf
      obtain ⟨v2, hv, hf⟩ := hf
      refine zv_ldI zq_288 zo_288 rfl hv ?_
      refine zv_p (k := 2) (f' := (25, [(6, .int v2), (0, .ref p0), (1, .ref p1), (2, .ref p2), (3, .ref p3), (4, .int p4), (5, .int p5)], [.ref p0])) zq_288 zo_288 (by with_unfolding_all rfl) ?_
      replace hf := zf_be hf
      obtain ⟨v3, hv, hf⟩ := hf
      refine zv_gf zq_288 zo_288 rfl rfl rfl (zf_Ae hv) ?_
      refine zv_p (k := 1) (f' := (29, [(6, .int v2), (0, .ref p0), (1, .ref p1), (2, .ref p2), (3, .ref p3), (4, .int p4), (5, .int p5)], [.ref p0, .ref v3])) zq_288 zo_288 (by with_unfolding_all rfl) ?_
      replace hf := zf_be hf
      obtain ⟨v4, hv, hf⟩ := hf
      refine zv_gf zq_288 zo_288 rfl rfl rfl (zf_Ie hv) ?_
      refine zv_p (k := 1) (f' := (34, [(6, .int v2), (0, .ref p0), (1, .ref p1), (2, .ref p2), (3, .ref p3), (4, .int p4), (5, .int p5)], [.int v2, .int v4, .ref v3])) zq_288 zo_288 (by with_unfolding_all rfl) ?_
      replace hf := zf_be hf
      obtain ⟨_, ho, hf⟩ := hf
      replace hf := zf_b2e hf
      obtain ⟨v5, h6, hv, hf⟩ := hf
      refine zv_c zq_288 zo_288 rfl rfl rfl rfl rfl (zv_cv rfl rfl rfl (zf_ise ho) rfl) (t_f_Sheet_keyAt _ _ _ _ _ _ hv) ?_
      refine zv_p (k := 1) (f' := (39, [(7, .long v5), (6, .int v2), (0, .ref p0), (1, .ref p1), (2, .ref p2), (3, .ref p3), (4, .int p4), (5, .int p5)], [])) zq_288 zo_288 (by with_unfolding_all rfl) ?_
      refine zv_pick (lv' := [(0, .ref p0), (1, .ref p1), (2, .ref p2), (3, .ref p3), (4, .int p4), (5, .int p5), (6, .int v2), (7, .long v5)]) [0, 1, 2, 3, 4, 5, 6, 7] rfl rfl ?_
      exact t_f_JoinWays_byMerging_39 ih zF _ _ _ _ _ _ _ _ _ _ _ hf
set_option maxHeartbeats 1000000 in
def f_JoinWays_byMerging (p0 : Nat) (p1 : Nat) (p2 : Nat) (h : zx_H) : Option (Nat × zx_H) :=
  zf_b2 (zf_newa .long 2 (40 : Int32) h) fun q1 h2 =>
  f_JoinWays_byMerging_11 zF p0 p1 p2 q1 (0 : Int32) (0 : Int32) h2
set_option maxHeartbeats 4000000 in
set_option maxRecDepth 400000 in
theorem t_f_JoinWays_byMerging {sc : (Nat × (Nat → Int32)) × Bool} {d : Nat} (p0 : Nat) (p1 : Nat) (p2 : Nat) (h : zx_H) (r : Nat) (h' : zx_H) (hf : f_JoinWays_byMerging p0 p1 p2 h = some (r, h')) : zx_T sc (d + 2) 288 (0, [(0, .ref p0), (1, .ref p1), (2, .ref p2)], []) h (zf_oA r) h' := by
  unfold f_JoinWays_byMerging at hf
  refine zv_p (k := 1) (f' := (2, [(0, .ref p0), (1, .ref p1), (2, .ref p2)], [.int (40 : Int32)])) zq_288 zo_288 (by with_unfolding_all rfl) ?_
  replace hf := zf_b2e hf
  obtain ⟨q1, h2, hv, hf⟩ := hf
  refine zv_newa zq_288 zo_288 rfl rfl hv ?_
  refine zv_p (k := 5) (f' := (11, [(5, .int (0 : Int32)), (4, .int (0 : Int32)), (3, .ref q1), (0, .ref p0), (1, .ref p1), (2, .ref p2)], [])) zq_288 zo_288 (by with_unfolding_all rfl) ?_
  refine zv_pick (lv' := [(0, .ref p0), (1, .ref p1), (2, .ref p2), (3, .ref q1), (4, .int (0 : Int32)), (5, .int (0 : Int32))]) [0, 1, 2, 3, 4, 5] rfl rfl ?_
  exact t_f_JoinWays_byMerging_11 zF _ _ _ _ _ _ _ _ _ hf
/-! ColumnVault$JoinWays.firstPlaceOf (arr IJ)I -/
noncomputable def zI_291 : zd_T := [[(0, .iconst 0, 1), (1, .istore 4, 2), (3, .aload_n 1, 1), (4, .arraylength, 1), (5, .istore 5, 2), (7, .iconst 0, 1), (8, .istore 6, 2), (10, .iload 6, 2), (12, .bipush 40, 2), (14, .if_icmp .ge 58, 3), (17, .iload 4, 2), (19, .iload 5, 2), (21, .if_icmp .ge 51, 3), (24, .iload 4, 2), (26, .iload 5, 2), (28, .iadd, 1), (29, .iconst 2, 1), (30, .idiv, 1), (31, .istore 7, 2)], [(33, .aload_n 0, 1), (34, .getfield 19, 3), (37, .aload_n 0, 1), (38, .getfield 22, 3), (41, .aload_n 1, 1), (42, .iload 7, 2), (44, .iaload, 1), (45, .invokevirtual 55, 3), (48, .lload_n 2, 1), (49, .lcmp, 1), (50, .ifCond .ge 12, 3), (53, .iload 7, 2), (55, .iconst 1, 1), (56, .iadd, 1), (57, .istore 4, 2), (59, .goto 7, 3), (62, .iload 7, 2)], [(64, .istore 5, 2), (66, .iinc 6 1, 3), (69, .goto (-59), 3), (72, .iload 4, 2), (74, .ireturn, 1)]]
theorem zo_291 : zd_of 291 = some zI_291 := rfl
set_option maxRecDepth 100000 in
theorem zq_291 : zt_m[291]? = some (⟨"ColumnVault$JoinWays", "firstPlaceOf", "([IJ)I"⟩, prog_7_method_5_code, 8, some (.int), [], 7, 2, 0, 0, 0, 0) := rfl
set_option maxHeartbeats 1000000 in
def f_JoinWays_firstPlaceOf_10 : Nat → Nat → Nat → Int64 → Int32 → Int32 → Int32 → zx_H → Option (Int32 × zx_H)
  | 0, _, _, _, _, _, _, _ => none
  | n + 1, p0, p1, p2, p3, p4, p5, h =>
    if (40 : Int32) ≤ p5 then
      some (p3, h)
    else
      if p4 ≤ p3 then
        some (p3, h)
      else
        zf_b (zf_A 7 2 p0 h) fun v1 =>
        zf_b (zf_I 7 3 p0 h) fun v2 =>
        zf_b (zf_ldI p1 ((p3 + p4) / (2 : Int32)) h) fun v3 =>
        zf_b (zf_is 10 v1 h) fun _ =>
        zf_b2 (f_Sheet_keyAt v1 v2 v3 h) fun v4 h5 =>
        if p2 ≤ v4 then
          (f_JoinWays_firstPlaceOf_10 n) p0 p1 p2 p3 ((p3 + p4) / (2 : Int32)) (p5 + (1 : Int32)) h5
        else
          (f_JoinWays_firstPlaceOf_10 n) p0 p1 p2 (((p3 + p4) / (2 : Int32)) + (1 : Int32)) p4 (p5 + (1 : Int32)) h5
set_option maxHeartbeats 4000000 in
set_option maxRecDepth 400000 in
theorem t_f_JoinWays_firstPlaceOf_10 {sc : (Nat × (Nat → Int32)) × Bool} {d : Nat} : ∀ (n : Nat) (p0 : Nat) (p1 : Nat) (p2 : Int64) (p3 : Int32) (p4 : Int32) (p5 : Int32) (h : zx_H) (r : Int32) (h' : zx_H), f_JoinWays_firstPlaceOf_10 n p0 p1 p2 p3 p4 p5 h = some (r, h') → zx_T sc (d + 1) 291 (10, [(0, .ref p0), (1, .ref p1), (2, .long p2), (4, .int p3), (5, .int p4), (6, .int p5)], []) h (zf_oI r) h' := by
  intro n
  induction n with
  | zero => intro p0 p1 p2 p3 p4 p5 h r h' hf; cases hf
  | succ n ih =>
    intro p0 p1 p2 p3 p4 p5 h r h' hf
    unfold f_JoinWays_firstPlaceOf_10 at hf
    refine zv_p (k := 2) (f' := (14, [(0, .ref p0), (1, .ref p1), (2, .long p2), (4, .int p3), (5, .int p4), (6, .int p5)], [.int (40 : Int32), .int p5])) zq_291 zo_291 (by with_unfolding_all rfl) ?_
    replace hf := zf_ite hf
    obtain ⟨hc, hf⟩ | ⟨hc, hf⟩ := hf
    · refine zv_brT (off := 58) (tt := 72) (r := []) zq_291 zo_291 hc rfl rfl rfl ?_
      refine zv_p (k := 1) (f' := (74, [(0, .ref p0), (1, .ref p1), (2, .long p2), (4, .int p3), (5, .int p4), (6, .int p5)], [.int p3])) zq_291 zo_291 (by with_unfolding_all rfl) ?_
      cases hf
      exact zv_rn zq_291 zo_291 rfl rfl
    · refine zv_brF (off := 58) (tt := 72) (r := []) zq_291 zo_291 hc rfl rfl rfl ?_
      refine zv_p (k := 2) (f' := (21, [(0, .ref p0), (1, .ref p1), (2, .long p2), (4, .int p3), (5, .int p4), (6, .int p5)], [.int p4, .int p3])) zq_291 zo_291 (by with_unfolding_all rfl) ?_
      replace hf := zf_ite hf
      obtain ⟨hc, hf⟩ | ⟨hc, hf⟩ := hf
      · refine zv_brT (off := 51) (tt := 72) (r := []) zq_291 zo_291 hc rfl rfl rfl ?_
        refine zv_p (k := 1) (f' := (74, [(0, .ref p0), (1, .ref p1), (2, .long p2), (4, .int p3), (5, .int p4), (6, .int p5)], [.int p3])) zq_291 zo_291 (by with_unfolding_all rfl) ?_
        cases hf
        exact zv_rn zq_291 zo_291 rfl rfl
      · refine zv_brF (off := 51) (tt := 72) (r := []) zq_291 zo_291 hc rfl rfl rfl ?_
        refine zv_p (k := 7) (f' := (34, [(7, .int ((p3 + p4) / (2 : Int32))), (0, .ref p0), (1, .ref p1), (2, .long p2), (4, .int p3), (5, .int p4), (6, .int p5)], [.ref p0])) zq_291 zo_291 (by with_unfolding_all rfl) ?_
        replace hf := zf_be hf
        obtain ⟨v1, hv, hf⟩ := hf
        refine zv_gf zq_291 zo_291 rfl rfl rfl (zf_Ae hv) ?_
        refine zv_p (k := 1) (f' := (38, [(7, .int ((p3 + p4) / (2 : Int32))), (0, .ref p0), (1, .ref p1), (2, .long p2), (4, .int p3), (5, .int p4), (6, .int p5)], [.ref p0, .ref v1])) zq_291 zo_291 (by with_unfolding_all rfl) ?_
        replace hf := zf_be hf
        obtain ⟨v2, hv, hf⟩ := hf
        refine zv_gf zq_291 zo_291 rfl rfl rfl (zf_Ie hv) ?_
        refine zv_p (k := 2) (f' := (44, [(7, .int ((p3 + p4) / (2 : Int32))), (0, .ref p0), (1, .ref p1), (2, .long p2), (4, .int p3), (5, .int p4), (6, .int p5)], [.int ((p3 + p4) / (2 : Int32)), .ref p1, .int v2, .ref v1])) zq_291 zo_291 (by with_unfolding_all rfl) ?_
        replace hf := zf_be hf
        obtain ⟨v3, hv, hf⟩ := hf
        refine zv_ldI zq_291 zo_291 rfl hv ?_
        replace hf := zf_be hf
        obtain ⟨_, ho, hf⟩ := hf
        replace hf := zf_b2e hf
        obtain ⟨v4, h5, hv, hf⟩ := hf
        refine zv_c zq_291 zo_291 rfl rfl rfl rfl rfl (zv_cv rfl rfl rfl (zf_ise ho) rfl) (t_f_Sheet_keyAt _ _ _ _ _ _ hv) ?_
        refine zv_p (k := 2) (f' := (50, [(7, .int ((p3 + p4) / (2 : Int32))), (0, .ref p0), (1, .ref p1), (2, .long p2), (4, .int p3), (5, .int p4), (6, .int p5)], [.int (lg_cmp v4 p2)])) zq_291 zo_291 (by with_unfolding_all rfl) ?_
        replace hf := zf_ite hf
        obtain ⟨hc, hf⟩ | ⟨hc, hf⟩ := hf
        · refine zv_brT (off := 12) (tt := 62) (r := []) zq_291 zo_291 (zl_ge.mpr hc) rfl rfl rfl ?_
          refine zv_p (k := 4) (f' := (10, [(6, .int (p5 + (1 : Int32))), (5, .int ((p3 + p4) / (2 : Int32))), (7, .int ((p3 + p4) / (2 : Int32))), (0, .ref p0), (1, .ref p1), (2, .long p2), (4, .int p3)], [])) zq_291 zo_291 (by with_unfolding_all rfl) ?_
          refine zv_pick (lv' := [(0, .ref p0), (1, .ref p1), (2, .long p2), (4, .int p3), (5, .int ((p3 + p4) / (2 : Int32))), (6, .int (p5 + (1 : Int32)))]) [0, 1, 2, 4, 5, 6] rfl rfl ?_
          exact ih _ _ _ _ _ _ _ _ _ hf
        · refine zv_brF (off := 12) (tt := 62) (r := []) zq_291 zo_291 (mt zl_ge.mp hc) rfl rfl rfl ?_
          refine zv_p (k := 7) (f' := (10, [(6, .int (p5 + (1 : Int32))), (4, .int (((p3 + p4) / (2 : Int32)) + (1 : Int32))), (7, .int ((p3 + p4) / (2 : Int32))), (0, .ref p0), (1, .ref p1), (2, .long p2), (5, .int p4)], [])) zq_291 zo_291 (by with_unfolding_all rfl) ?_
          refine zv_pick (lv' := [(0, .ref p0), (1, .ref p1), (2, .long p2), (4, .int (((p3 + p4) / (2 : Int32)) + (1 : Int32))), (5, .int p4), (6, .int (p5 + (1 : Int32)))]) [0, 1, 2, 4, 5, 6] rfl rfl ?_
          exact ih _ _ _ _ _ _ _ _ _ hf
set_option maxHeartbeats 1000000 in
def f_JoinWays_firstPlaceOf (p0 : Nat) (p1 : Nat) (p2 : Int64) (h : zx_H) : Option (Int32 × zx_H) :=
  zf_b (zf_len p1 h) fun v1 =>
  f_JoinWays_firstPlaceOf_10 zF p0 p1 p2 (0 : Int32) v1 (0 : Int32) h
set_option maxHeartbeats 4000000 in
set_option maxRecDepth 400000 in
theorem t_f_JoinWays_firstPlaceOf {sc : (Nat × (Nat → Int32)) × Bool} {d : Nat} (p0 : Nat) (p1 : Nat) (p2 : Int64) (h : zx_H) (r : Int32) (h' : zx_H) (hf : f_JoinWays_firstPlaceOf p0 p1 p2 h = some (r, h')) : zx_T sc (d + 1) 291 (0, [(0, .ref p0), (1, .ref p1), (2, .long p2)], []) h (zf_oI r) h' := by
  unfold f_JoinWays_firstPlaceOf at hf
  refine zv_p (k := 3) (f' := (4, [(4, .int (0 : Int32)), (0, .ref p0), (1, .ref p1), (2, .long p2)], [.ref p1])) zq_291 zo_291 (by with_unfolding_all rfl) ?_
  replace hf := zf_be hf
  obtain ⟨v1, hv, hf⟩ := hf
  refine zv_len zq_291 zo_291 rfl hv ?_
  refine zv_p (k := 3) (f' := (10, [(6, .int (0 : Int32)), (5, .int v1), (4, .int (0 : Int32)), (0, .ref p0), (1, .ref p1), (2, .long p2)], [])) zq_291 zo_291 (by with_unfolding_all rfl) ?_
  refine zv_pick (lv' := [(0, .ref p0), (1, .ref p1), (2, .long p2), (4, .int (0 : Int32)), (5, .int v1), (6, .int (0 : Int32))]) [0, 1, 2, 4, 5, 6] rfl rfl ?_
  exact t_f_JoinWays_firstPlaceOf_10 zF _ _ _ _ _ _ _ _ _ hf
/-! ColumnVault$JoinWays.byLookingUp (arr I)arr J -/
noncomputable def zI_290 : zd_T := [[(0, .bipush 40, 2), (2, .newarray .long, 2), (4, .astore_n 2, 1), (5, .iconst 0, 1), (6, .istore_n 3, 1), (7, .iload_n 3, 1), (8, .aload_n 0, 1), (9, .getfield 9, 3), (12, .getfield 67, 3), (15, .if_icmp .ge 63, 3), (18, .aload_n 0, 1), (19, .getfield 9, 3), (22, .aload_n 0, 1), (23, .getfield 15, 3), (26, .iload_n 3, 1), (27, .invokevirtual 55, 3), (30, .lstore 4, 2)], [(32, .lload 4, 2), (34, .ldc2_w 70, 3), (37, .lcmp, 1), (38, .ifCond .eq 34, 3), (41, .aload_n 0, 1), (42, .getfield 9, 3), (45, .getfield 25, 3), (48, .iload_n 3, 1), (49, .invokestatic 72, 3), (52, .ifCond .eq 20, 3), (55, .aload_n 2, 1), (56, .iload_n 3, 1), (57, .aload_n 0, 1), (58, .aload_n 1, 1), (59, .aload_n 0, 1), (60, .aload_n 1, 1), (61, .lload 4, 2), (63, .invokevirtual 76, 3)], [(66, .lload 4, 2), (68, .invokevirtual 63, 3), (71, .lastore, 1), (72, .iinc 3 1, 3), (75, .goto (-68), 3), (78, .aload_n 2, 1), (79, .areturn, 1)]]
theorem zo_290 : zd_of 290 = some zI_290 := rfl
set_option maxRecDepth 100000 in
theorem zq_290 : zt_m[290]? = some (⟨"ColumnVault$JoinWays", "byLookingUp", "([I)[J"⟩, prog_7_method_4_code, 6, some (.array (.long)), [], 7, 1, 0, 0, 0, 0) := rfl
