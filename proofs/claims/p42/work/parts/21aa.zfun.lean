/-! ColumnVault$Sheet.init ()V -/
noncomputable def zI_3 : zd_T := [[(0, .aload_n 0, 1), (1, .invokespecial 3, 3), (4, .aload_n 0, 1), (5, .iconst 4, 1), (6, .newarray .int, 2), (8, .putfield 9, 3), (11, .aload_n 0, 1), (12, .sipush 160, 3), (15, .newarray .long, 2), (17, .putfield 15, 3), (20, .aload_n 0, 1), (21, .bipush 40, 2), (23, .newarray .int, 2), (25, .putfield 19, 3), (28, .aload_n 0, 1), (29, .iconst 0, 1), (30, .putfield 22, 3)], [(33, .aload_n 0, 1), (34, .iconst 0, 1), (35, .putfield 26, 3), (38, .aload_n 0, 1), (39, .lconst 0, 1), (40, .putfield 29, 3), (43, .return_, 1)]]
theorem zo_3 : zd_of 3 = some zI_3 := rfl
set_option maxRecDepth 100000 in
theorem zq_3 : zt_m[3]? = some (⟨"ColumnVault$Sheet", "<init>", "()V"⟩, prog_10_method_1_code, 1, none, [], 10, 0, 0, 2, 99999, 0) := rfl
set_option maxHeartbeats 1000000 in
def f_Sheet_init (p0 : Nat) (h : zx_H) : Option (Unit × zx_H) :=
  zf_b2 (zf_newa .int 1 (4 : Int32) h) fun q1 h2 =>
  zf_b (zf_put 10 0 p0 (.ref q1) h2) fun h3 =>
  zf_b2 (zf_newa .long 2 (160 : Int32) h3) fun q4 h5 =>
  zf_b (zf_put 10 1 p0 (.ref q4) h5) fun h6 =>
  zf_b2 (zf_newa .int 1 (40 : Int32) h6) fun q7 h8 =>
  zf_b (zf_put 10 2 p0 (.ref q7) h8) fun h9 =>
  zf_b (zf_put 10 3 p0 (.int (0 : Int32)) h9) fun h10 =>
  zf_b (zf_put 10 4 p0 (.int (0 : Int32)) h10) fun h11 =>
  zf_b (zf_put 10 5 p0 (.long (0 : Int64)) h11) fun h12 =>
  some ((), h12)
set_option maxHeartbeats 4000000 in
set_option maxRecDepth 400000 in
theorem t_f_Sheet_init {sc : (Nat × (Nat → Int32)) × Bool} {d : Nat} (p0 : Nat) (h : zx_H) (r : Unit) (h' : zx_H) (hf : f_Sheet_init p0 h = some (r, h')) : zx_T sc d 3 (0, [(0, .ref p0)], []) h (zf_oV r) h' := by
  unfold f_Sheet_init at hf
  refine zv_p (k := 1) (f' := (1, [(0, .ref p0)], [.ref p0])) zq_3 zo_3 (by with_unfolding_all rfl) ?_
  refine zv_oi zq_3 zo_3 rfl rfl rfl ?_
  refine zv_p (k := 2) (f' := (6, [(0, .ref p0)], [.int (4 : Int32), .ref p0])) zq_3 zo_3 (by with_unfolding_all rfl) ?_
  replace hf := zf_b2e hf
  obtain ⟨q1, h2, hv, hf⟩ := hf
  refine zv_newa zq_3 zo_3 rfl rfl hv ?_
  replace hf := zf_be hf
  obtain ⟨h3, hv, hf⟩ := hf
  refine zv_pf zq_3 zo_3 rfl rfl rfl rfl hv ?_
  refine zv_p (k := 2) (f' := (15, [(0, .ref p0)], [.int (160 : Int32), .ref p0])) zq_3 zo_3 (by with_unfolding_all rfl) ?_
  replace hf := zf_b2e hf
  obtain ⟨q4, h5, hv, hf⟩ := hf
  refine zv_newa zq_3 zo_3 rfl rfl hv ?_
  replace hf := zf_be hf
  obtain ⟨h6, hv, hf⟩ := hf
  refine zv_pf zq_3 zo_3 rfl rfl rfl rfl hv ?_
  refine zv_p (k := 2) (f' := (23, [(0, .ref p0)], [.int (40 : Int32), .ref p0])) zq_3 zo_3 (by with_unfolding_all rfl) ?_
  replace hf := zf_b2e hf
  obtain ⟨q7, h8, hv, hf⟩ := hf
  refine zv_newa zq_3 zo_3 rfl rfl hv ?_
  replace hf := zf_be hf
  obtain ⟨h9, hv, hf⟩ := hf
  refine zv_pf zq_3 zo_3 rfl rfl rfl rfl hv ?_
  refine zv_p (k := 2) (f' := (30, [(0, .ref p0)], [.int (0 : Int32), .ref p0])) zq_3 zo_3 (by with_unfolding_all rfl) ?_
  replace hf := zf_be hf
  obtain ⟨h10, hv, hf⟩ := hf
  refine zv_pf zq_3 zo_3 rfl rfl rfl rfl hv ?_
  refine zv_p (k := 2) (f' := (35, [(0, .ref p0)], [.int (0 : Int32), .ref p0])) zq_3 zo_3 (by with_unfolding_all rfl) ?_
  replace hf := zf_be hf
  obtain ⟨h11, hv, hf⟩ := hf
  refine zv_pf zq_3 zo_3 rfl rfl rfl rfl hv ?_
  refine zv_p (k := 2) (f' := (40, [(0, .ref p0)], [.long (0 : Int64), .ref p0])) zq_3 zo_3 (by with_unfolding_all rfl) ?_
  replace hf := zf_be hf
  obtain ⟨h12, hv, hf⟩ := hf
  refine zv_pf zq_3 zo_3 rfl rfl rfl rfl hv ?_
  cases hf
  exact zv_r zq_3 zo_3 rfl rfl rfl rfl rfl
/-! ColumnVault$History.init ()V -/
noncomputable def zI_2 : zd_T := [[(0, .aload_n 0, 1), (1, .invokespecial 3, 3), (4, .aload_n 0, 1), (5, .bipush 36, 2), (7, .anewarray 9, 3), (10, .putfield 11, 3), (13, .aload_n 0, 1), (14, .iconst 0, 1), (15, .putfield 17, 3), (18, .iconst 0, 1), (19, .istore_n 1, 1), (20, .iload_n 1, 1), (21, .aload_n 0, 1), (22, .getfield 11, 3), (25, .arraylength, 1), (26, .if_icmp .ge 22, 3), (29, .aload_n 0, 1), (30, .getfield 11, 3)], [(33, .iload_n 1, 1), (34, .new 9, 3), (37, .dup, 1), (38, .invokespecial 21, 3), (41, .aastore, 1), (42, .iinc 1 1, 3), (45, .goto (-25), 3), (48, .return_, 1)]]
theorem zo_2 : zd_of 2 = some zI_2 := rfl
set_option maxRecDepth 100000 in
theorem zq_2 : zt_m[2]? = some (⟨"ColumnVault$History", "<init>", "()V"⟩, prog_6_method_1_code, 2, none, [], 6, 0, 0, 2, 99999, 0) := rfl
set_option maxHeartbeats 1000000 in
def f_History_init_20 : Nat → Nat → Int32 → zx_H → Option (Unit × zx_H)
  | 0, _, _, _ => none
  | n + 1, p0, p1, h =>
    zf_b (zf_A 6 0 p0 h) fun v1 =>
    zf_b (zf_len v1 h) fun v2 =>
    if v2 ≤ p1 then
      some ((), h)
    else
      zf_b (zf_A 6 0 p0 h) fun v3 =>
      zf_b2 (zf_new 10 h) fun q4 h5 =>
      zf_b2 (f_Sheet_init q4 h5) fun _ h7 =>
      zf_b (zf_stA v3 p1 q4 h7) fun h8 =>
      (f_History_init_20 n) p0 (p1 + (1 : Int32)) h8
set_option maxHeartbeats 4000000 in
set_option maxRecDepth 400000 in
theorem t_f_History_init_20 {sc : (Nat × (Nat → Int32)) × Bool} {d : Nat} : ∀ (n : Nat) (p0 : Nat) (p1 : Int32) (h : zx_H) (r : Unit) (h' : zx_H), f_History_init_20 n p0 p1 h = some (r, h') → zx_T sc (d + 1) 2 (20, [(0, .ref p0), (1, .int p1)], []) h (zf_oV r) h' := by
  intro n
  induction n with
  | zero => intro p0 p1 h r h' hf; cases hf
  | succ n ih =>
    intro p0 p1 h r h' hf
    unfold f_History_init_20 at hf
    refine zv_p (k := 2) (f' := (22, [(0, .ref p0), (1, .int p1)], [.ref p0, .int p1])) zq_2 zo_2 (by with_unfolding_all rfl) ?_
    replace hf := zf_be hf
    obtain ⟨v1, hv, hf⟩ := hf
    refine zv_gf zq_2 zo_2 rfl rfl rfl (zf_Ae hv) ?_
    replace hf := zf_be hf
    obtain ⟨v2, hv, hf⟩ := hf
    refine zv_len zq_2 zo_2 rfl hv ?_
    replace hf := zf_ite hf
    obtain ⟨hc, hf⟩ | ⟨hc, hf⟩ := hf
    · refine zv_brT (off := 22) (tt := 48) (r := []) zq_2 zo_2 hc rfl rfl rfl ?_
      cases hf
      exact zv_r zq_2 zo_2 rfl rfl rfl rfl rfl
    · refine zv_brF (off := 22) (tt := 48) (r := []) zq_2 zo_2 hc rfl rfl rfl ?_
      refine zv_p (k := 1) (f' := (30, [(0, .ref p0), (1, .int p1)], [.ref p0])) zq_2 zo_2 (by with_unfolding_all rfl) ?_
      replace hf := zf_be hf
      obtain ⟨v3, hv, hf⟩ := hf
      refine zv_gf zq_2 zo_2 rfl rfl rfl (zf_Ae hv) ?_
      refine zv_p (k := 1) (f' := (34, [(0, .ref p0), (1, .int p1)], [.int p1, .ref v3])) zq_2 zo_2 (by with_unfolding_all rfl) ?_
      replace hf := zf_b2e hf
      obtain ⟨q4, h5, hv, hf⟩ := hf
      refine zv_new zq_2 zo_2 rfl rfl rfl hv ?_
      refine zv_p (k := 1) (f' := (38, [(0, .ref p0), (1, .int p1)], [.ref q4, .ref q4, .int p1, .ref v3])) zq_2 zo_2 (by with_unfolding_all rfl) ?_
      replace hf := zf_b2e hf
      obtain ⟨v6, h7, hv, hf⟩ := hf
      refine zv_c zq_2 zo_2 rfl rfl rfl rfl rfl rfl (t_f_Sheet_init _ _ _ _ hv) ?_
      replace hf := zf_be hf
      obtain ⟨h8, hv, hf⟩ := hf
      refine zv_stA zq_2 zo_2 rfl hv ?_
      refine zv_p (k := 2) (f' := (20, [(1, .int (p1 + (1 : Int32))), (0, .ref p0)], [])) zq_2 zo_2 (by with_unfolding_all rfl) ?_
      refine zv_pick (lv' := [(0, .ref p0), (1, .int (p1 + (1 : Int32)))]) [0, 1] rfl rfl ?_
      exact ih _ _ _ _ _ hf
set_option maxHeartbeats 1000000 in
def f_History_init (p0 : Nat) (h : zx_H) : Option (Unit × zx_H) :=
  zf_b2 (zf_newr 0 (36 : Int32) h) fun q1 h2 =>
  zf_b (zf_put 6 0 p0 (.ref q1) h2) fun h3 =>
  zf_b (zf_put 6 1 p0 (.int (0 : Int32)) h3) fun h4 =>
  f_History_init_20 zF p0 (0 : Int32) h4
set_option maxHeartbeats 4000000 in
set_option maxRecDepth 400000 in
theorem t_f_History_init {sc : (Nat × (Nat → Int32)) × Bool} {d : Nat} (p0 : Nat) (h : zx_H) (r : Unit) (h' : zx_H) (hf : f_History_init p0 h = some (r, h')) : zx_T sc (d + 1) 2 (0, [(0, .ref p0)], []) h (zf_oV r) h' := by
  unfold f_History_init at hf
  refine zv_p (k := 1) (f' := (1, [(0, .ref p0)], [.ref p0])) zq_2 zo_2 (by with_unfolding_all rfl) ?_
  refine zv_oi zq_2 zo_2 rfl rfl rfl ?_
  refine zv_p (k := 2) (f' := (7, [(0, .ref p0)], [.int (36 : Int32), .ref p0])) zq_2 zo_2 (by with_unfolding_all rfl) ?_
  replace hf := zf_b2e hf
  obtain ⟨q1, h2, hv, hf⟩ := hf
  refine zv_newr zq_2 zo_2 rfl rfl rfl hv ?_
  replace hf := zf_be hf
  obtain ⟨h3, hv, hf⟩ := hf
  refine zv_pf zq_2 zo_2 rfl rfl rfl rfl hv ?_
  refine zv_p (k := 2) (f' := (15, [(0, .ref p0)], [.int (0 : Int32), .ref p0])) zq_2 zo_2 (by with_unfolding_all rfl) ?_
  replace hf := zf_be hf
  obtain ⟨h4, hv, hf⟩ := hf
  refine zv_pf zq_2 zo_2 rfl rfl rfl rfl hv ?_
  refine zv_p (k := 2) (f' := (20, [(1, .int (0 : Int32)), (0, .ref p0)], [])) zq_2 zo_2 (by with_unfolding_all rfl) ?_
  refine zv_pick (lv' := [(0, .ref p0), (1, .int (0 : Int32))]) [0, 1] rfl rfl ?_
  exact t_f_History_init_20 zF _ _ _ _ _ hf
/-! ColumnVault$FilterText.init ()V -/
noncomputable def zI_4 : zd_T := [[(0, .aload_n 0, 1), (1, .invokespecial 3, 3), (4, .aload_n 0, 1), (5, .sipush 160, 3), (8, .newarray .int, 2), (10, .putfield 9, 3), (13, .aload_n 0, 1), (14, .iconst 0, 1), (15, .putfield 15, 3), (18, .return_, 1)]]
theorem zo_4 : zd_of 4 = some zI_4 := rfl
set_option maxRecDepth 100000 in
theorem zq_4 : zt_m[4]? = some (⟨"ColumnVault$FilterText", "<init>", "()V"⟩, prog_4_method_1_code, 1, none, [], 4, 0, 0, 2, 99999, 0) := rfl
set_option maxHeartbeats 1000000 in
def f_FilterText_init (p0 : Nat) (h : zx_H) : Option (Unit × zx_H) :=
  zf_b2 (zf_newa .int 1 (160 : Int32) h) fun q1 h2 =>
  zf_b (zf_put 4 0 p0 (.ref q1) h2) fun h3 =>
  zf_b (zf_put 4 1 p0 (.int (0 : Int32)) h3) fun h4 =>
  some ((), h4)
set_option maxHeartbeats 4000000 in
set_option maxRecDepth 400000 in
theorem t_f_FilterText_init {sc : (Nat × (Nat → Int32)) × Bool} {d : Nat} (p0 : Nat) (h : zx_H) (r : Unit) (h' : zx_H) (hf : f_FilterText_init p0 h = some (r, h')) : zx_T sc d 4 (0, [(0, .ref p0)], []) h (zf_oV r) h' := by
  unfold f_FilterText_init at hf
  refine zv_p (k := 1) (f' := (1, [(0, .ref p0)], [.ref p0])) zq_4 zo_4 (by with_unfolding_all rfl) ?_
  refine zv_oi zq_4 zo_4 rfl rfl rfl ?_
  refine zv_p (k := 2) (f' := (8, [(0, .ref p0)], [.int (160 : Int32), .ref p0])) zq_4 zo_4 (by with_unfolding_all rfl) ?_
  replace hf := zf_b2e hf
  obtain ⟨q1, h2, hv, hf⟩ := hf
  refine zv_newa zq_4 zo_4 rfl rfl hv ?_
  replace hf := zf_be hf
  obtain ⟨h3, hv, hf⟩ := hf
  refine zv_pf zq_4 zo_4 rfl rfl rfl rfl hv ?_
  refine zv_p (k := 2) (f' := (15, [(0, .ref p0)], [.int (0 : Int32), .ref p0])) zq_4 zo_4 (by with_unfolding_all rfl) ?_
  replace hf := zf_be hf
  obtain ⟨h4, hv, hf⟩ := hf
  refine zv_pf zq_4 zo_4 rfl rfl rfl rfl hv ?_
  cases hf
  exact zv_r zq_4 zo_4 rfl rfl rfl rfl rfl
/-! ColumnVault$Tokens.init ()V -/
noncomputable def zI_5 : zd_T := [[(0, .aload_n 0, 1), (1, .invokespecial 3, 3), (4, .aload_n 0, 1), (5, .sipush 161, 3), (8, .newarray .int, 2), (10, .putfield 9, 3), (13, .aload_n 0, 1), (14, .sipush 161, 3), (17, .newarray .int, 2), (19, .putfield 15, 3), (22, .aload_n 0, 1), (23, .sipush 161, 3), (26, .newarray .long, 2), (28, .putfield 18, 3), (31, .aload_n 0, 1)], [(32, .iconst 0, 1), (33, .putfield 22, 3), (36, .return_, 1)]]
theorem zo_5 : zd_of 5 = some zI_5 := rfl
set_option maxRecDepth 100000 in
theorem zq_5 : zt_m[5]? = some (⟨"ColumnVault$Tokens", "<init>", "()V"⟩, prog_11_method_1_code, 1, none, [], 11, 0, 0, 2, 99999, 0) := rfl
set_option maxHeartbeats 1000000 in
def f_Tokens_init (p0 : Nat) (h : zx_H) : Option (Unit × zx_H) :=
  zf_b2 (zf_newa .int 1 (161 : Int32) h) fun q1 h2 =>
  zf_b (zf_put 11 0 p0 (.ref q1) h2) fun h3 =>
  zf_b2 (zf_newa .int 1 (161 : Int32) h3) fun q4 h5 =>
  zf_b (zf_put 11 1 p0 (.ref q4) h5) fun h6 =>
  zf_b2 (zf_newa .long 2 (161 : Int32) h6) fun q7 h8 =>
  zf_b (zf_put 11 2 p0 (.ref q7) h8) fun h9 =>
  zf_b (zf_put 11 3 p0 (.int (0 : Int32)) h9) fun h10 =>
  some ((), h10)
set_option maxHeartbeats 4000000 in
set_option maxRecDepth 400000 in
theorem t_f_Tokens_init {sc : (Nat × (Nat → Int32)) × Bool} {d : Nat} (p0 : Nat) (h : zx_H) (r : Unit) (h' : zx_H) (hf : f_Tokens_init p0 h = some (r, h')) : zx_T sc d 5 (0, [(0, .ref p0)], []) h (zf_oV r) h' := by
  unfold f_Tokens_init at hf
  refine zv_p (k := 1) (f' := (1, [(0, .ref p0)], [.ref p0])) zq_5 zo_5 (by with_unfolding_all rfl) ?_
  refine zv_oi zq_5 zo_5 rfl rfl rfl ?_
  refine zv_p (k := 2) (f' := (8, [(0, .ref p0)], [.int (161 : Int32), .ref p0])) zq_5 zo_5 (by with_unfolding_all rfl) ?_
  replace hf := zf_b2e hf
  obtain ⟨q1, h2, hv, hf⟩ := hf
  refine zv_newa zq_5 zo_5 rfl rfl hv ?_
  replace hf := zf_be hf
  obtain ⟨h3, hv, hf⟩ := hf
  refine zv_pf zq_5 zo_5 rfl rfl rfl rfl hv ?_
  refine zv_p (k := 2) (f' := (17, [(0, .ref p0)], [.int (161 : Int32), .ref p0])) zq_5 zo_5 (by with_unfolding_all rfl) ?_
  replace hf := zf_b2e hf
  obtain ⟨q4, h5, hv, hf⟩ := hf
  refine zv_newa zq_5 zo_5 rfl rfl hv ?_
  replace hf := zf_be hf
  obtain ⟨h6, hv, hf⟩ := hf
  refine zv_pf zq_5 zo_5 rfl rfl rfl rfl hv ?_
  refine zv_p (k := 2) (f' := (26, [(0, .ref p0)], [.int (161 : Int32), .ref p0])) zq_5 zo_5 (by with_unfolding_all rfl) ?_
  replace hf := zf_b2e hf
  obtain ⟨q7, h8, hv, hf⟩ := hf
  refine zv_newa zq_5 zo_5 rfl rfl hv ?_
  replace hf := zf_be hf
  obtain ⟨h9, hv, hf⟩ := hf
  refine zv_pf zq_5 zo_5 rfl rfl rfl rfl hv ?_
  refine zv_p (k := 2) (f' := (33, [(0, .ref p0)], [.int (0 : Int32), .ref p0])) zq_5 zo_5 (by with_unfolding_all rfl) ?_
  replace hf := zf_be hf
  obtain ⟨h10, hv, hf⟩ := hf
  refine zv_pf zq_5 zo_5 rfl rfl rfl rfl hv ?_
  cases hf
  exact zv_r zq_5 zo_5 rfl rfl rfl rfl rfl
/-! ColumnVault$Pairs.init ()V -/
noncomputable def zI_6 : zd_T := [[(0, .aload_n 0, 1), (1, .invokespecial 3, 3), (4, .aload_n 0, 1), (5, .sipush 1600, 3), (8, .newarray .int, 2), (10, .putfield 9, 3), (13, .aload_n 0, 1), (14, .sipush 1600, 3), (17, .newarray .int, 2), (19, .putfield 15, 3), (22, .aload_n 0, 1), (23, .iconst 0, 1), (24, .putfield 18, 3), (27, .return_, 1)]]
theorem zo_6 : zd_of 6 = some zI_6 := rfl
set_option maxRecDepth 100000 in
theorem zq_6 : zt_m[6]? = some (⟨"ColumnVault$Pairs", "<init>", "()V"⟩, prog_9_method_1_code, 1, none, [], 9, 0, 0, 2, 99999, 0) := rfl
set_option maxHeartbeats 1000000 in
def f_Pairs_init (p0 : Nat) (h : zx_H) : Option (Unit × zx_H) :=
  zf_b2 (zf_newa .int 1 (1600 : Int32) h) fun q1 h2 =>
  zf_b (zf_put 9 0 p0 (.ref q1) h2) fun h3 =>
  zf_b2 (zf_newa .int 1 (1600 : Int32) h3) fun q4 h5 =>
  zf_b (zf_put 9 1 p0 (.ref q4) h5) fun h6 =>
  zf_b (zf_put 9 2 p0 (.int (0 : Int32)) h6) fun h7 =>
  some ((), h7)
set_option maxHeartbeats 4000000 in
set_option maxRecDepth 400000 in
theorem t_f_Pairs_init {sc : (Nat × (Nat → Int32)) × Bool} {d : Nat} (p0 : Nat) (h : zx_H) (r : Unit) (h' : zx_H) (hf : f_Pairs_init p0 h = some (r, h')) : zx_T sc d 6 (0, [(0, .ref p0)], []) h (zf_oV r) h' := by
  unfold f_Pairs_init at hf
  refine zv_p (k := 1) (f' := (1, [(0, .ref p0)], [.ref p0])) zq_6 zo_6 (by with_unfolding_all rfl) ?_
  refine zv_oi zq_6 zo_6 rfl rfl rfl ?_
  refine zv_p (k := 2) (f' := (8, [(0, .ref p0)], [.int (1600 : Int32), .ref p0])) zq_6 zo_6 (by with_unfolding_all rfl) ?_
  replace hf := zf_b2e hf
  obtain ⟨q1, h2, hv, hf⟩ := hf
  refine zv_newa zq_6 zo_6 rfl rfl hv ?_
  replace hf := zf_be hf
  obtain ⟨h3, hv, hf⟩ := hf
  refine zv_pf zq_6 zo_6 rfl rfl rfl rfl hv ?_
  refine zv_p (k := 2) (f' := (17, [(0, .ref p0)], [.int (1600 : Int32), .ref p0])) zq_6 zo_6 (by with_unfolding_all rfl) ?_
  replace hf := zf_b2e hf
  obtain ⟨q4, h5, hv, hf⟩ := hf
  refine zv_newa zq_6 zo_6 rfl rfl hv ?_
  replace hf := zf_be hf
  obtain ⟨h6, hv, hf⟩ := hf
  refine zv_pf zq_6 zo_6 rfl rfl rfl rfl hv ?_
  refine zv_p (k := 2) (f' := (24, [(0, .ref p0)], [.int (0 : Int32), .ref p0])) zq_6 zo_6 (by with_unfolding_all rfl) ?_
  replace hf := zf_be hf
  obtain ⟨h7, hv, hf⟩ := hf
  refine zv_pf zq_6 zo_6 rfl rfl rfl rfl hv ?_
  cases hf
  exact zv_r zq_6 zo_6 rfl rfl rfl rfl rfl
/-! ColumnVault$Groups.init ()V -/
noncomputable def zI_7 : zd_T := [[(0, .aload_n 0, 1), (1, .invokespecial 3, 3), (4, .aload_n 0, 1), (5, .new 9, 3), (8, .dup, 1), (9, .invokespecial 11, 3), (12, .putfield 12, 3), (15, .aload_n 0, 1), (16, .bipush 40, 2), (18, .newarray .long, 2), (20, .putfield 18, 3), (23, .aload_n 0, 1), (24, .bipush 40, 2), (26, .newarray .long, 2), (28, .putfield 22, 3), (31, .aload_n 0, 1)], [(32, .iconst 0, 1), (33, .putfield 25, 3), (36, .aload_n 0, 1), (37, .iconst 0, 1), (38, .putfield 29, 3), (41, .return_, 1)]]
theorem zo_7 : zd_of 7 = some zI_7 := rfl
set_option maxRecDepth 100000 in
theorem zq_7 : zt_m[7]? = some (⟨"ColumnVault$Groups", "<init>", "()V"⟩, prog_5_method_1_code, 1, none, [], 5, 0, 0, 2, 99999, 0) := rfl
set_option maxHeartbeats 1000000 in
def f_Groups_init (p0 : Nat) (h : zx_H) : Option (Unit × zx_H) :=
  zf_b2 (zf_new 10 h) fun q1 h2 =>
  zf_b2 (f_Sheet_init q1 h2) fun _ h4 =>
  zf_b (zf_put 5 0 p0 (.ref q1) h4) fun h5 =>
  zf_b2 (zf_newa .long 2 (40 : Int32) h5) fun q6 h7 =>
  zf_b (zf_put 5 1 p0 (.ref q6) h7) fun h8 =>
  zf_b2 (zf_newa .long 2 (40 : Int32) h8) fun q9 h10 =>
  zf_b (zf_put 5 2 p0 (.ref q9) h10) fun h11 =>
  zf_b (zf_put 5 3 p0 (.int (0 : Int32)) h11) fun h12 =>
  zf_b (zf_put 5 4 p0 (.int (0 : Int32)) h12) fun h13 =>
  some ((), h13)
set_option maxHeartbeats 4000000 in
set_option maxRecDepth 400000 in
theorem t_f_Groups_init {sc : (Nat × (Nat → Int32)) × Bool} {d : Nat} (p0 : Nat) (h : zx_H) (r : Unit) (h' : zx_H) (hf : f_Groups_init p0 h = some (r, h')) : zx_T sc (d + 1) 7 (0, [(0, .ref p0)], []) h (zf_oV r) h' := by
  unfold f_Groups_init at hf
  refine zv_p (k := 1) (f' := (1, [(0, .ref p0)], [.ref p0])) zq_7 zo_7 (by with_unfolding_all rfl) ?_
  refine zv_oi zq_7 zo_7 rfl rfl rfl ?_
  refine zv_p (k := 1) (f' := (5, [(0, .ref p0)], [.ref p0])) zq_7 zo_7 (by with_unfolding_all rfl) ?_
  replace hf := zf_b2e hf
  obtain ⟨q1, h2, hv, hf⟩ := hf
  refine zv_new zq_7 zo_7 rfl rfl rfl hv ?_
  refine zv_p (k := 1) (f' := (9, [(0, .ref p0)], [.ref q1, .ref q1, .ref p0])) zq_7 zo_7 (by with_unfolding_all rfl) ?_
  replace hf := zf_b2e hf
  obtain ⟨v3, h4, hv, hf⟩ := hf
  refine zv_c zq_7 zo_7 rfl rfl rfl rfl rfl rfl (t_f_Sheet_init _ _ _ _ hv) ?_
  replace hf := zf_be hf
  obtain ⟨h5, hv, hf⟩ := hf
  refine zv_pf zq_7 zo_7 rfl rfl rfl rfl hv ?_
  refine zv_p (k := 2) (f' := (18, [(0, .ref p0)], [.int (40 : Int32), .ref p0])) zq_7 zo_7 (by with_unfolding_all rfl) ?_
  replace hf := zf_b2e hf
  obtain ⟨q6, h7, hv, hf⟩ := hf
  refine zv_newa zq_7 zo_7 rfl rfl hv ?_
  replace hf := zf_be hf
  obtain ⟨h8, hv, hf⟩ := hf
  refine zv_pf zq_7 zo_7 rfl rfl rfl rfl hv ?_
  refine zv_p (k := 2) (f' := (26, [(0, .ref p0)], [.int (40 : Int32), .ref p0])) zq_7 zo_7 (by with_unfolding_all rfl) ?_
  replace hf := zf_b2e hf
  obtain ⟨q9, h10, hv, hf⟩ := hf
  refine zv_newa zq_7 zo_7 rfl rfl hv ?_
  replace hf := zf_be hf
  obtain ⟨h11, hv, hf⟩ := hf
  refine zv_pf zq_7 zo_7 rfl rfl rfl rfl hv ?_
  refine zv_p (k := 2) (f' := (33, [(0, .ref p0)], [.int (0 : Int32), .ref p0])) zq_7 zo_7 (by with_unfolding_all rfl) ?_
  replace hf := zf_be hf
  obtain ⟨h12, hv, hf⟩ := hf
  refine zv_pf zq_7 zo_7 rfl rfl rfl rfl hv ?_
  refine zv_p (k := 2) (f' := (38, [(0, .ref p0)], [.int (0 : Int32), .ref p0])) zq_7 zo_7 (by with_unfolding_all rfl) ?_
  replace hf := zf_be hf
  obtain ⟨h13, hv, hf⟩ := hf
  refine zv_pf zq_7 zo_7 rfl rfl rfl rfl hv ?_
  cases hf
  exact zv_r zq_7 zo_7 rfl rfl rfl rfl rfl
/-! ColumnVault$Checks.init ()V -/
noncomputable def zI_8 : zd_T := [[(0, .aload_n 0, 1), (1, .invokespecial 3, 3), (4, .aload_n 0, 1), (5, .new 9, 3), (8, .dup, 1), (9, .invokespecial 11, 3), (12, .putfield 12, 3), (15, .aload_n 0, 1), (16, .new 18, 3), (19, .dup, 1), (20, .invokespecial 20, 3), (23, .putfield 21, 3), (26, .aload_n 0, 1), (27, .bipush 40, 2), (29, .newarray .long, 2), (31, .putfield 25, 3)], [(34, .return_, 1)]]
theorem zo_8 : zd_of 8 = some zI_8 := rfl
set_option maxRecDepth 100000 in
theorem zq_8 : zt_m[8]? = some (⟨"ColumnVault$Checks", "<init>", "()V"⟩, prog_2_method_1_code, 1, none, [], 2, 0, 0, 2, 99999, 0) := rfl
set_option maxHeartbeats 1000000 in
def f_Checks_init (p0 : Nat) (h : zx_H) : Option (Unit × zx_H) :=
  zf_b2 (zf_new 10 h) fun q1 h2 =>
  zf_b2 (f_Sheet_init q1 h2) fun _ h4 =>
  zf_b (zf_put 2 0 p0 (.ref q1) h4) fun h5 =>
  zf_b2 (zf_new 5 h5) fun q6 h7 =>
  zf_b2 (f_Groups_init q6 h7) fun _ h9 =>
  zf_b (zf_put 2 1 p0 (.ref q6) h9) fun h10 =>
  zf_b2 (zf_newa .long 2 (40 : Int32) h10) fun q11 h12 =>
  zf_b (zf_put 2 2 p0 (.ref q11) h12) fun h13 =>
  some ((), h13)
set_option maxHeartbeats 4000000 in
set_option maxRecDepth 400000 in
theorem t_f_Checks_init {sc : (Nat × (Nat → Int32)) × Bool} {d : Nat} (p0 : Nat) (h : zx_H) (r : Unit) (h' : zx_H) (hf : f_Checks_init p0 h = some (r, h')) : zx_T sc (d + 2) 8 (0, [(0, .ref p0)], []) h (zf_oV r) h' := by
  unfold f_Checks_init at hf
  refine zv_p (k := 1) (f' := (1, [(0, .ref p0)], [.ref p0])) zq_8 zo_8 (by with_unfolding_all rfl) ?_
  refine zv_oi zq_8 zo_8 rfl rfl rfl ?_
  refine zv_p (k := 1) (f' := (5, [(0, .ref p0)], [.ref p0])) zq_8 zo_8 (by with_unfolding_all rfl) ?_
  replace hf := zf_b2e hf
  obtain ⟨q1, h2, hv, hf⟩ := hf
  refine zv_new zq_8 zo_8 rfl rfl rfl hv ?_
  refine zv_p (k := 1) (f' := (9, [(0, .ref p0)], [.ref q1, .ref q1, .ref p0])) zq_8 zo_8 (by with_unfolding_all rfl) ?_
  replace hf := zf_b2e hf
  obtain ⟨v3, h4, hv, hf⟩ := hf
  refine zv_c zq_8 zo_8 rfl rfl rfl rfl rfl rfl (t_f_Sheet_init _ _ _ _ hv) ?_
  replace hf := zf_be hf
  obtain ⟨h5, hv, hf⟩ := hf
  refine zv_pf zq_8 zo_8 rfl rfl rfl rfl hv ?_
  refine zv_p (k := 1) (f' := (16, [(0, .ref p0)], [.ref p0])) zq_8 zo_8 (by with_unfolding_all rfl) ?_
  replace hf := zf_b2e hf
  obtain ⟨q6, h7, hv, hf⟩ := hf
  refine zv_new zq_8 zo_8 rfl rfl rfl hv ?_
  refine zv_p (k := 1) (f' := (20, [(0, .ref p0)], [.ref q6, .ref q6, .ref p0])) zq_8 zo_8 (by with_unfolding_all rfl) ?_
  replace hf := zf_b2e hf
  obtain ⟨v8, h9, hv, hf⟩ := hf
  refine zv_c zq_8 zo_8 rfl rfl rfl rfl rfl rfl (t_f_Groups_init _ _ _ _ hv) ?_
  replace hf := zf_be hf
  obtain ⟨h10, hv, hf⟩ := hf
  refine zv_pf zq_8 zo_8 rfl rfl rfl rfl hv ?_
  refine zv_p (k := 2) (f' := (29, [(0, .ref p0)], [.int (40 : Int32), .ref p0])) zq_8 zo_8 (by with_unfolding_all rfl) ?_
  replace hf := zf_b2e hf
  obtain ⟨q11, h12, hv, hf⟩ := hf
  refine zv_newa zq_8 zo_8 rfl rfl hv ?_
  replace hf := zf_be hf
  obtain ⟨h13, hv, hf⟩ := hf
  refine zv_pf zq_8 zo_8 rfl rfl rfl rfl hv ?_
  cases hf
  exact zv_r zq_8 zo_8 rfl rfl rfl rfl rfl
/-! ColumnVault.init ()V -/
noncomputable def zI_1 : zd_T := [[(0, .aload_n 0, 1), (1, .invokespecial 5, 3), (4, .aload_n 0, 1), (5, .new 11, 3), (8, .dup, 1), (9, .invokespecial 13, 3), (12, .putfield 14, 3), (15, .aload_n 0, 1), (16, .new 18, 3), (19, .dup, 1), (20, .invokespecial 20, 3), (23, .putfield 21, 3), (26, .aload_n 0, 1), (27, .new 25, 3), (30, .dup, 1), (31, .invokespecial 27, 3)], [(34, .putfield 28, 3), (37, .aload_n 0, 1), (38, .new 32, 3), (41, .dup, 1), (42, .invokespecial 34, 3), (45, .putfield 35, 3), (48, .aload_n 0, 1), (49, .new 39, 3), (52, .dup, 1), (53, .invokespecial 41, 3), (56, .putfield 42, 3), (59, .aload_n 0, 1), (60, .new 46, 3), (63, .dup, 1)], [(64, .invokespecial 48, 3), (67, .putfield 49, 3), (70, .return_, 1)]]
theorem zo_1 : zd_of 1 = some zI_1 := rfl
set_option maxRecDepth 100000 in
theorem zq_1 : zt_m[1]? = some (⟨"ColumnVault", "<init>", "()V"⟩, prog_1_method_1_code, 1, none, [], 12, 0, 0, 2, 99999, 0) := rfl
set_option maxHeartbeats 1000000 in
def f_ColumnVault_init (p0 : Nat) (h : zx_H) : Option (Unit × zx_H) :=
  zf_b2 (zf_new 6 h) fun q1 h2 =>
  zf_b2 (f_History_init q1 h2) fun _ h4 =>
  zf_b (zf_put 12 0 p0 (.ref q1) h4) fun h5 =>
  zf_b2 (zf_new 4 h5) fun q6 h7 =>
  zf_b2 (f_FilterText_init q6 h7) fun _ h9 =>
  zf_b (zf_put 12 1 p0 (.ref q6) h9) fun h10 =>
  zf_b2 (zf_new 11 h10) fun q11 h12 =>
  zf_b2 (f_Tokens_init q11 h12) fun _ h14 =>
  zf_b (zf_put 12 2 p0 (.ref q11) h14) fun h15 =>
  zf_b2 (zf_new 9 h15) fun q16 h17 =>
  zf_b2 (f_Pairs_init q16 h17) fun _ h19 =>
  zf_b (zf_put 12 3 p0 (.ref q16) h19) fun h20 =>
  zf_b2 (zf_new 5 h20) fun q21 h22 =>
  zf_b2 (f_Groups_init q21 h22) fun _ h24 =>
  zf_b (zf_put 12 4 p0 (.ref q21) h24) fun h25 =>
  zf_b2 (zf_new 2 h25) fun q26 h27 =>
  zf_b2 (f_Checks_init q26 h27) fun _ h29 =>
  zf_b (zf_put 12 5 p0 (.ref q26) h29) fun h30 =>
  some ((), h30)
set_option maxHeartbeats 4000000 in
set_option maxRecDepth 400000 in
theorem t_f_ColumnVault_init {sc : (Nat × (Nat → Int32)) × Bool} {d : Nat} (p0 : Nat) (h : zx_H) (r : Unit) (h' : zx_H) (hf : f_ColumnVault_init p0 h = some (r, h')) : zx_T sc (d + 3) 1 (0, [(0, .ref p0)], []) h (zf_oV r) h' := by
  unfold f_ColumnVault_init at hf
  refine zv_p (k := 1) (f' := (1, [(0, .ref p0)], [.ref p0])) zq_1 zo_1 (by with_unfolding_all rfl) ?_
  refine zv_oi zq_1 zo_1 rfl rfl rfl ?_
  refine zv_p (k := 1) (f' := (5, [(0, .ref p0)], [.ref p0])) zq_1 zo_1 (by with_unfolding_all rfl) ?_
  replace hf := zf_b2e hf
  obtain ⟨q1, h2, hv, hf⟩ := hf
  refine zv_new zq_1 zo_1 rfl rfl rfl hv ?_
  refine zv_p (k := 1) (f' := (9, [(0, .ref p0)], [.ref q1, .ref q1, .ref p0])) zq_1 zo_1 (by with_unfolding_all rfl) ?_
  replace hf := zf_b2e hf
  obtain ⟨v3, h4, hv, hf⟩ := hf
  refine zv_c zq_1 zo_1 rfl rfl rfl rfl rfl rfl (t_f_History_init _ _ _ _ hv) ?_
  replace hf := zf_be hf
  obtain ⟨h5, hv, hf⟩ := hf
  refine zv_pf zq_1 zo_1 rfl rfl rfl rfl hv ?_
  refine zv_p (k := 1) (f' := (16, [(0, .ref p0)], [.ref p0])) zq_1 zo_1 (by with_unfolding_all rfl) ?_
  replace hf := zf_b2e hf
  obtain ⟨q6, h7, hv, hf⟩ := hf
  refine zv_new zq_1 zo_1 rfl rfl rfl hv ?_
  refine zv_p (k := 1) (f' := (20, [(0, .ref p0)], [.ref q6, .ref q6, .ref p0])) zq_1 zo_1 (by with_unfolding_all rfl) ?_
  replace hf := zf_b2e hf
  obtain ⟨v8, h9, hv, hf⟩ := hf
  refine zv_c zq_1 zo_1 rfl rfl rfl rfl rfl rfl (t_f_FilterText_init _ _ _ _ hv) ?_
  replace hf := zf_be hf
  obtain ⟨h10, hv, hf⟩ := hf
  refine zv_pf zq_1 zo_1 rfl rfl rfl rfl hv ?_
  refine zv_p (k := 1) (f' := (27, [(0, .ref p0)], [.ref p0])) zq_1 zo_1 (by with_unfolding_all rfl) ?_
  replace hf := zf_b2e hf
  obtain ⟨q11, h12, hv, hf⟩ := hf
  refine zv_new zq_1 zo_1 rfl rfl rfl hv ?_
  refine zv_p (k := 1) (f' := (31, [(0, .ref p0)], [.ref q11, .ref q11, .ref p0])) zq_1 zo_1 (by with_unfolding_all rfl) ?_
  replace hf := zf_b2e hf
  obtain ⟨v13, h14, hv, hf⟩ := hf
  refine zv_c zq_1 zo_1 rfl rfl rfl rfl rfl rfl (t_f_Tokens_init _ _ _ _ hv) ?_
  replace hf := zf_be hf
  obtain ⟨h15, hv, hf⟩ := hf
  refine zv_pf zq_1 zo_1 rfl rfl rfl rfl hv ?_
  refine zv_p (k := 1) (f' := (38, [(0, .ref p0)], [.ref p0])) zq_1 zo_1 (by with_unfolding_all rfl) ?_
  replace hf := zf_b2e hf
  obtain ⟨q16, h17, hv, hf⟩ := hf
  refine zv_new zq_1 zo_1 rfl rfl rfl hv ?_
  refine zv_p (k := 1) (f' := (42, [(0, .ref p0)], [.ref q16, .ref q16, .ref p0])) zq_1 zo_1 (by with_unfolding_all rfl) ?_
  replace hf := zf_b2e hf
  obtain ⟨v18, h19, hv, hf⟩ := hf
  refine zv_c zq_1 zo_1 rfl rfl rfl rfl rfl rfl (t_f_Pairs_init _ _ _ _ hv) ?_
  replace hf := zf_be hf
  obtain ⟨h20, hv, hf⟩ := hf
  refine zv_pf zq_1 zo_1 rfl rfl rfl rfl hv ?_
  refine zv_p (k := 1) (f' := (49, [(0, .ref p0)], [.ref p0])) zq_1 zo_1 (by with_unfolding_all rfl) ?_
  replace hf := zf_b2e hf
  obtain ⟨q21, h22, hv, hf⟩ := hf
  refine zv_new zq_1 zo_1 rfl rfl rfl hv ?_
  refine zv_p (k := 1) (f' := (53, [(0, .ref p0)], [.ref q21, .ref q21, .ref p0])) zq_1 zo_1 (by with_unfolding_all rfl) ?_
  replace hf := zf_b2e hf
  obtain ⟨v23, h24, hv, hf⟩ := hf
  refine zv_c zq_1 zo_1 rfl rfl rfl rfl rfl rfl (t_f_Groups_init _ _ _ _ hv) ?_
  replace hf := zf_be hf
  obtain ⟨h25, hv, hf⟩ := hf
  refine zv_pf zq_1 zo_1 rfl rfl rfl rfl hv ?_
  refine zv_p (k := 1) (f' := (60, [(0, .ref p0)], [.ref p0])) zq_1 zo_1 (by with_unfolding_all rfl) ?_
  replace hf := zf_b2e hf
  obtain ⟨q26, h27, hv, hf⟩ := hf
  refine zv_new zq_1 zo_1 rfl rfl rfl hv ?_
  refine zv_p (k := 1) (f' := (64, [(0, .ref p0)], [.ref q26, .ref q26, .ref p0])) zq_1 zo_1 (by with_unfolding_all rfl) ?_
  replace hf := zf_b2e hf
  obtain ⟨v28, h29, hv, hf⟩ := hf
  refine zv_c zq_1 zo_1 rfl rfl rfl rfl rfl rfl (t_f_Checks_init _ _ _ _ hv) ?_
  replace hf := zf_be hf
  obtain ⟨h30, hv, hf⟩ := hf
  refine zv_pf zq_1 zo_1 rfl rfl rfl rfl hv ?_
  cases hf
  exact zv_r zq_1 zo_1 rfl rfl rfl rfl rfl
/-! ColumnVault$History.sheetIn (II)LColumnVault$Sheet; -/
noncomputable def zI_11 : zd_T := [[(0, .iload_n 1, 1), (1, .ifCond .lt 12, 3), (4, .iload_n 2, 1), (5, .ifCond .lt 8, 3), (8, .iload_n 2, 1), (9, .iconst 3, 1), (10, .if_icmp .lt 5, 3), (13, .aconst_null, 1), (14, .areturn, 1), (15, .aload_n 0, 1), (16, .getfield 11, 3), (19, .iload_n 1, 1), (20, .bipush 12, 2), (22, .irem, 1), (23, .iconst 3, 1), (24, .imul, 1), (25, .iload_n 2, 1), (26, .iadd, 1), (27, .aaload, 1), (28, .areturn, 1)]]
theorem zo_11 : zd_of 11 = some zI_11 := rfl
set_option maxRecDepth 100000 in
theorem zq_11 : zt_m[11]? = some (⟨"ColumnVault$History", "sheetIn", "(II)LColumnVault$Sheet;"⟩, prog_6_method_3_code, 3, some (.object "ColumnVault$Sheet"), [], 6, 2, 0, 0, 0, 0) := rfl
set_option maxHeartbeats 1000000 in
def f_History_sheetIn (p0 : Nat) (p1 : Int32) (p2 : Int32) (h : zx_H) : Option (Option Nat × zx_H) :=
  if p1 < 0 then
    some (none, h)
  else
    if p2 < 0 then
      some (none, h)
    else
      if p2 < (3 : Int32) then
        zf_b (zf_A 6 0 p0 h) fun v1 =>
        zf_b (zf_ldA v1 (((p1 - p1 / (12 : Int32) * (12 : Int32)) * (3 : Int32)) + p2) h) fun v2 =>
        some ((some v2), h)
      else
        some (none, h)
set_option maxHeartbeats 4000000 in
set_option maxRecDepth 400000 in
theorem t_f_History_sheetIn {sc : (Nat × (Nat → Int32)) × Bool} {d : Nat} (p0 : Nat) (p1 : Int32) (p2 : Int32) (h : zx_H) (r : Option Nat) (h' : zx_H) (hf : f_History_sheetIn p0 p1 p2 h = some (r, h')) : zx_T sc d 11 (0, [(0, .ref p0), (1, .int p1), (2, .int p2)], []) h (zf_oN r) h' := by
  unfold f_History_sheetIn at hf
  refine zv_p (k := 1) (f' := (1, [(0, .ref p0), (1, .int p1), (2, .int p2)], [.int p1])) zq_11 zo_11 (by with_unfolding_all rfl) ?_
  replace hf := zf_ite hf
  obtain ⟨hc, hf⟩ | ⟨hc, hf⟩ := hf
  · refine zv_brT (off := 12) (tt := 13) (r := []) zq_11 zo_11 hc rfl rfl rfl ?_
    refine zv_p (k := 1) (f' := (14, [(0, .ref p0), (1, .int p1), (2, .int p2)], [.null])) zq_11 zo_11 (by with_unfolding_all rfl) ?_
    cases hf
    exact zv_r zq_11 zo_11 rfl rfl rfl rfl rfl
  · refine zv_brF (off := 12) (tt := 13) (r := []) zq_11 zo_11 hc rfl rfl rfl ?_
    refine zv_p (k := 1) (f' := (5, [(0, .ref p0), (1, .int p1), (2, .int p2)], [.int p2])) zq_11 zo_11 (by with_unfolding_all rfl) ?_
    replace hf := zf_ite hf
    obtain ⟨hc, hf⟩ | ⟨hc, hf⟩ := hf
    · refine zv_brT (off := 8) (tt := 13) (r := []) zq_11 zo_11 hc rfl rfl rfl ?_
      refine zv_p (k := 1) (f' := (14, [(0, .ref p0), (1, .int p1), (2, .int p2)], [.null])) zq_11 zo_11 (by with_unfolding_all rfl) ?_
      cases hf
      exact zv_r zq_11 zo_11 rfl rfl rfl rfl rfl
    · refine zv_brF (off := 8) (tt := 13) (r := []) zq_11 zo_11 hc rfl rfl rfl ?_
      refine zv_p (k := 2) (f' := (10, [(0, .ref p0), (1, .int p1), (2, .int p2)], [.int (3 : Int32), .int p2])) zq_11 zo_11 (by with_unfolding_all rfl) ?_
      replace hf := zf_ite hf
      obtain ⟨hc, hf⟩ | ⟨hc, hf⟩ := hf
      · refine zv_brT (off := 5) (tt := 15) (r := []) zq_11 zo_11 hc rfl rfl rfl ?_
        refine zv_p (k := 1) (f' := (16, [(0, .ref p0), (1, .int p1), (2, .int p2)], [.ref p0])) zq_11 zo_11 (by with_unfolding_all rfl) ?_
        replace hf := zf_be hf
        obtain ⟨v1, hv, hf⟩ := hf
        refine zv_gf zq_11 zo_11 rfl rfl rfl (zf_Ae hv) ?_
        refine zv_p (k := 7) (f' := (27, [(0, .ref p0), (1, .int p1), (2, .int p2)], [.int (((p1 - p1 / (12 : Int32) * (12 : Int32)) * (3 : Int32)) + p2), .ref v1])) zq_11 zo_11 (by with_unfolding_all rfl) ?_
        replace hf := zf_be hf
        obtain ⟨v2, hv, hf⟩ := hf
        refine zv_ldA zq_11 zo_11 rfl hv ?_
        cases hf
        exact zv_r zq_11 zo_11 rfl rfl rfl rfl rfl
      · refine zv_brF (off := 5) (tt := 15) (r := []) zq_11 zo_11 hc rfl rfl rfl ?_
        refine zv_p (k := 1) (f' := (14, [(0, .ref p0), (1, .int p1), (2, .int p2)], [.null])) zq_11 zo_11 (by with_unfolding_all rfl) ?_
        cases hf
        exact zv_r zq_11 zo_11 rfl rfl rfl rfl rfl
/-! ColumnVault.sheetOf (I)LColumnVault$Sheet; -/
noncomputable def zI_10 : zd_T := [[(0, .aload_n 0, 1), (1, .getfield 14, 3), (4, .aload_n 0, 1), (5, .getfield 14, 3), (8, .getfield 146, 3), (11, .iload_n 1, 1), (12, .invokevirtual 356, 3), (15, .astore_n 2, 1), (16, .aload_n 2, 1), (17, .ifnonnull 14, 3), (20, .new 153, 3), (23, .dup, 1), (24, .ldc_w 359, 3), (27, .invokespecial 157, 3), (30, .athrow, 1), (31, .aload_n 2, 1)], [(32, .areturn, 1)]]
theorem zo_10 : zd_of 10 = some zI_10 := rfl
set_option maxRecDepth 100000 in
theorem zq_10 : zt_m[10]? = some (⟨"ColumnVault", "sheetOf", "(I)LColumnVault$Sheet;"⟩, prog_1_method_41_code, 3, some (.object "ColumnVault$Sheet"), [], 12, 1, 0, 0, 0, 0) := rfl
set_option maxHeartbeats 1000000 in
def f_ColumnVault_sheetOf (p0 : Nat) (p1 : Int32) (h : zx_H) : Option ((Nat ⊕ Nat) × zx_H) :=
  zf_b (zf_A 12 0 p0 h) fun v1 =>
  zf_b (zf_A 12 0 p0 h) fun v2 =>
  zf_b (zf_I 6 1 v2 h) fun v3 =>
  zf_b (zf_is 6 v1 h) fun _ =>
  zf_b2 (f_History_sheetIn v1 v3 p1 h) fun v4 h5 =>
  zf_on v4 (
    if h5.length < zx_lim then some (.inr 13, h5 ++ [.inr (13, [])]) else none
  ) fun q6 =>
    some (.inl q6, h5)
set_option maxHeartbeats 4000000 in
set_option maxRecDepth 400000 in
theorem t_f_ColumnVault_sheetOf {sc : (Nat × (Nat → Int32)) × Bool} {d : Nat} (p0 : Nat) (p1 : Int32) (h : zx_H) (r : (Nat ⊕ Nat)) (h' : zx_H) (hf : f_ColumnVault_sheetOf p0 p1 h = some (r, h')) : zx_T sc (d + 1) 10 (0, [(0, .ref p0), (1, .int p1)], []) h (zf_oAx r) h' := by
  unfold f_ColumnVault_sheetOf at hf
  refine zv_p (k := 1) (f' := (1, [(0, .ref p0), (1, .int p1)], [.ref p0])) zq_10 zo_10 (by with_unfolding_all rfl) ?_
  replace hf := zf_be hf
  obtain ⟨v1, hv, hf⟩ := hf
  refine zv_gf zq_10 zo_10 rfl rfl rfl (zf_Ae hv) ?_
  refine zv_p (k := 1) (f' := (5, [(0, .ref p0), (1, .int p1)], [.ref p0, .ref v1])) zq_10 zo_10 (by with_unfolding_all rfl) ?_
  replace hf := zf_be hf
  obtain ⟨v2, hv, hf⟩ := hf
  refine zv_gf zq_10 zo_10 rfl rfl rfl (zf_Ae hv) ?_
  replace hf := zf_be hf
  obtain ⟨v3, hv, hf⟩ := hf
  refine zv_gf zq_10 zo_10 rfl rfl rfl (zf_Ie hv) ?_
  refine zv_p (k := 1) (f' := (12, [(0, .ref p0), (1, .int p1)], [.int p1, .int v3, .ref v1])) zq_10 zo_10 (by with_unfolding_all rfl) ?_
  replace hf := zf_be hf
  obtain ⟨_, ho, hf⟩ := hf
  replace hf := zf_b2e hf
  obtain ⟨v4, h5, hv, hf⟩ := hf
  refine zv_c zq_10 zo_10 rfl rfl rfl rfl rfl (zv_cv rfl rfl rfl (zf_ise ho) rfl) (t_f_History_sheetIn _ _ _ _ _ _ hv) ?_
  refine zv_p (k := 2) (f' := (17, [(2, zx_rf v4), (0, .ref p0), (1, .int p1)], [zx_rf v4])) zq_10 zo_10 (by cases v4 <;> with_unfolding_all rfl) ?_
  replace hf := zf_elim hf
  obtain ⟨rfl, hf⟩ | ⟨q6, rfl, hf⟩ := hf
  · refine zv_p (k := 1) (f' := (20, [(2, .null), (0, .ref p0), (1, .int p1)], [])) zq_10 zo_10 (by with_unfolding_all rfl) ?_
    replace hf := zf_ite hf
    obtain ⟨hc, hf⟩ | ⟨hc, hf⟩ := hf
    · cases hf; exact zv_tw zq_10 zo_10 rfl rfl rfl rfl rfl rfl rfl rfl rfl hc
    · cases hf
  · refine zv_p (k := 1) (f' := (31, [(2, .ref q6), (0, .ref p0), (1, .int p1)], [])) zq_10 zo_10 (by with_unfolding_all rfl) ?_
    refine zv_p (k := 1) (f' := (32, [(2, .ref q6), (0, .ref p0), (1, .int p1)], [.ref q6])) zq_10 zo_10 (by with_unfolding_all rfl) ?_
    cases hf
    exact zv_r zq_10 zo_10 rfl rfl rfl rfl rfl
/-! Long.bitCount (J)I -/
noncomputable def zI_12 : zd_T := [[(0, .lload_n 0, 1), (1, .lload_n 0, 1), (2, .iconst 1, 1), (3, .lushr, 1), (4, .ldc2_w 314, 3), (7, .land, 1), (8, .lsub, 1), (9, .lstore_n 0, 1), (10, .lload_n 0, 1), (11, .ldc2_w 316, 3), (14, .land, 1), (15, .lload_n 0, 1), (16, .iconst 2, 1), (17, .lushr, 1), (18, .ldc2_w 316, 3), (21, .land, 1), (22, .ladd, 1), (23, .lstore_n 0, 1), (24, .lload_n 0, 1), (25, .lload_n 0, 1), (26, .iconst 4, 1), (27, .lushr, 1), (28, .ladd, 1), (29, .ldc2_w 318, 3)], [(32, .land, 1), (33, .lstore_n 0, 1), (34, .lload_n 0, 1), (35, .lload_n 0, 1), (36, .bipush 8, 2), (38, .lushr, 1), (39, .ladd, 1), (40, .lstore_n 0, 1), (41, .lload_n 0, 1), (42, .lload_n 0, 1), (43, .bipush 16, 2), (45, .lushr, 1), (46, .ladd, 1), (47, .lstore_n 0, 1), (48, .lload_n 0, 1), (49, .lload_n 0, 1), (50, .bipush 32, 2), (52, .lushr, 1), (53, .ladd, 1), (54, .lstore_n 0, 1), (55, .lload_n 0, 1), (56, .l2i, 1), (57, .bipush 127, 2), (59, .iand, 1), (60, .ireturn, 1)]]
theorem zo_12 : zd_of 12 = some zI_12 := rfl
set_option maxRecDepth 100000 in
theorem zq_12 : zt_m[12]? = some (⟨"java/lang/Long", "bitCount", "(J)I"⟩, prog_27_method_50_code, 2, some (.int), [], 18, 1, 0, 1, 99999, 0) := rfl
