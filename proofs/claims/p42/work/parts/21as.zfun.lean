set_option maxHeartbeats 1000000 in
def f_ColumnVault_bytesIn (p0 : Int64) (h : zx_H) : Option (Int32 × zx_H) :=
  f_ColumnVault_bytesIn_5 zF p0 (0 : Int32) (56 : Int32) h
set_option maxHeartbeats 4000000 in
set_option maxRecDepth 400000 in
theorem t_f_ColumnVault_bytesIn {sc : (Nat × (Nat → Int32)) × Bool} {d : Nat} (p0 : Int64) (h : zx_H) (r : Int32) (h' : zx_H) (hf : f_ColumnVault_bytesIn p0 h = some (r, h')) : zx_T sc d 113 (0, [(0, .long p0)], []) h (zf_oI r) h' := by
  unfold f_ColumnVault_bytesIn at hf
  refine zv_p (k := 4) (f' := (5, [(3, .int (56 : Int32)), (2, .int (0 : Int32)), (0, .long p0)], [])) zq_113 zo_113 (by with_unfolding_all rfl) ?_
  refine zv_pick (lv' := [(0, .long p0), (2, .int (0 : Int32)), (3, .int (56 : Int32))]) [0, 2, 3] rfl rfl ?_
  exact t_f_ColumnVault_bytesIn_5 zF _ _ _ _ _ _ hf
/-! ColumnVault$FilterText.append (I)V -/
noncomputable def zI_115 : zd_T := [[(0, .iload_n 1, 1), (1, .ifCond .eq 33, 3), (4, .aload_n 0, 1), (5, .getfield 15, 3), (8, .sipush 160, 3), (11, .if_icmp .ge 23, 3), (14, .aload_n 0, 1), (15, .getfield 9, 3), (18, .aload_n 0, 1), (19, .getfield 15, 3), (22, .iload_n 1, 1), (23, .iastore, 1), (24, .aload_n 0, 1), (25, .dup, 1), (26, .getfield 15, 3), (29, .iconst 1, 1), (30, .iadd, 1), (31, .putfield 15, 3)], [(34, .return_, 1)]]
theorem zo_115 : zd_of 115 = some zI_115 := rfl
set_option maxRecDepth 100000 in
theorem zq_115 : zt_m[115]? = some (⟨"ColumnVault$FilterText", "append", "(I)V"⟩, prog_4_method_3_code, 2, none, [], 4, 1, 0, 0, 0, 0) := rfl
set_option maxHeartbeats 1000000 in
def f_FilterText_append (p0 : Nat) (p1 : Int32) (h : zx_H) : Option (Unit × zx_H) :=
  if p1 = 0 then
    some ((), h)
  else
    zf_b (zf_I 4 1 p0 h) fun v1 =>
    if (160 : Int32) ≤ v1 then
      some ((), h)
    else
      zf_b (zf_A 4 0 p0 h) fun v2 =>
      zf_b (zf_I 4 1 p0 h) fun v3 =>
      zf_b (zf_stI v2 v3 p1 h) fun h4 =>
      zf_b (zf_I 4 1 p0 h4) fun v5 =>
      zf_b (zf_put 4 1 p0 (.int (v5 + (1 : Int32))) h4) fun h6 =>
      some ((), h6)
set_option maxHeartbeats 4000000 in
set_option maxRecDepth 400000 in
theorem t_f_FilterText_append {sc : (Nat × (Nat → Int32)) × Bool} {d : Nat} (p0 : Nat) (p1 : Int32) (h : zx_H) (r : Unit) (h' : zx_H) (hf : f_FilterText_append p0 p1 h = some (r, h')) : zx_T sc d 115 (0, [(0, .ref p0), (1, .int p1)], []) h (zf_oV r) h' := by
  unfold f_FilterText_append at hf
  refine zv_p (k := 1) (f' := (1, [(0, .ref p0), (1, .int p1)], [.int p1])) zq_115 zo_115 (by with_unfolding_all rfl) ?_
  replace hf := zf_ite hf
  obtain ⟨hc, hf⟩ | ⟨hc, hf⟩ := hf
  · refine zv_brT (off := 33) (tt := 34) (r := []) zq_115 zo_115 hc rfl rfl rfl ?_
    cases hf
    exact zv_r zq_115 zo_115 rfl rfl rfl rfl rfl
  · refine zv_brF (off := 33) (tt := 34) (r := []) zq_115 zo_115 hc rfl rfl rfl ?_
    refine zv_p (k := 1) (f' := (5, [(0, .ref p0), (1, .int p1)], [.ref p0])) zq_115 zo_115 (by with_unfolding_all rfl) ?_
    replace hf := zf_be hf
    obtain ⟨v1, hv, hf⟩ := hf
    refine zv_gf zq_115 zo_115 rfl rfl rfl (zf_Ie hv) ?_
    refine zv_p (k := 1) (f' := (11, [(0, .ref p0), (1, .int p1)], [.int (160 : Int32), .int v1])) zq_115 zo_115 (by with_unfolding_all rfl) ?_
    replace hf := zf_ite hf
    obtain ⟨hc, hf⟩ | ⟨hc, hf⟩ := hf
    · refine zv_brT (off := 23) (tt := 34) (r := []) zq_115 zo_115 hc rfl rfl rfl ?_
      cases hf
      exact zv_r zq_115 zo_115 rfl rfl rfl rfl rfl
    · refine zv_brF (off := 23) (tt := 34) (r := []) zq_115 zo_115 hc rfl rfl rfl ?_
      refine zv_p (k := 1) (f' := (15, [(0, .ref p0), (1, .int p1)], [.ref p0])) zq_115 zo_115 (by with_unfolding_all rfl) ?_
      replace hf := zf_be hf
      obtain ⟨v2, hv, hf⟩ := hf
      refine zv_gf zq_115 zo_115 rfl rfl rfl (zf_Ae hv) ?_
      refine zv_p (k := 1) (f' := (19, [(0, .ref p0), (1, .int p1)], [.ref p0, .ref v2])) zq_115 zo_115 (by with_unfolding_all rfl) ?_
      replace hf := zf_be hf
      obtain ⟨v3, hv, hf⟩ := hf
      refine zv_gf zq_115 zo_115 rfl rfl rfl (zf_Ie hv) ?_
      refine zv_p (k := 1) (f' := (23, [(0, .ref p0), (1, .int p1)], [.int p1, .int v3, .ref v2])) zq_115 zo_115 (by with_unfolding_all rfl) ?_
      replace hf := zf_be hf
      obtain ⟨h4, hv, hf⟩ := hf
      refine zv_stI zq_115 zo_115 rfl hv ?_
      refine zv_p (k := 2) (f' := (26, [(0, .ref p0), (1, .int p1)], [.ref p0, .ref p0])) zq_115 zo_115 (by with_unfolding_all rfl) ?_
      replace hf := zf_be hf
      obtain ⟨v5, hv, hf⟩ := hf
      refine zv_gf zq_115 zo_115 rfl rfl rfl (zf_Ie hv) ?_
      refine zv_p (k := 2) (f' := (31, [(0, .ref p0), (1, .int p1)], [.int (v5 + (1 : Int32)), .ref p0])) zq_115 zo_115 (by with_unfolding_all rfl) ?_
      replace hf := zf_be hf
      obtain ⟨h6, hv, hf⟩ := hf
      refine zv_pf zq_115 zo_115 rfl rfl rfl rfl hv ?_
      cases hf
      exact zv_r zq_115 zo_115 rfl rfl rfl rfl rfl
/-! ColumnVault$FilterText.appendBytes (J)V -/
noncomputable def zI_114 : zd_T := [[(0, .bipush 56, 2), (2, .istore_n 3, 1), (3, .iload_n 3, 1), (4, .ifCond .lt 21, 3), (7, .aload_n 0, 1), (8, .lload_n 1, 1), (9, .iload_n 3, 1), (10, .lushr, 1), (11, .ldc2_w 19, 3), (14, .land, 1), (15, .l2i, 1), (16, .invokevirtual 21, 3), (19, .iinc 3 (-8), 3), (22, .goto (-19), 3), (25, .return_, 1)]]
theorem zo_114 : zd_of 114 = some zI_114 := rfl
set_option maxRecDepth 100000 in
theorem zq_114 : zt_m[114]? = some (⟨"ColumnVault$FilterText", "appendBytes", "(J)V"⟩, prog_4_method_4_code, 4, none, [], 4, 1, 0, 0, 0, 0) := rfl
set_option maxHeartbeats 1000000 in
def f_FilterText_appendBytes_3 : Nat → Nat → Int64 → Int32 → zx_H → Option (Unit × zx_H)
  | 0, _, _, _, _ => none
  | n + 1, p0, p1, p2, h =>
    if p2 < 0 then
      some ((), h)
    else
      zf_b (zf_is 4 p0 h) fun _ =>
      zf_b2 (f_FilterText_append p0 (((((p1).toUInt64 >>> ((p2).toInt64.toUInt64 &&& Int64.toUInt64 63)).toInt64 &&& (255 : Int64))).toInt32) h) fun _ h2 =>
      (f_FilterText_appendBytes_3 n) p0 p1 (p2 + (-8 : Int32)) h2
set_option maxHeartbeats 4000000 in
set_option maxRecDepth 400000 in
theorem t_f_FilterText_appendBytes_3 {sc : (Nat × (Nat → Int32)) × Bool} {d : Nat} : ∀ (n : Nat) (p0 : Nat) (p1 : Int64) (p2 : Int32) (h : zx_H) (r : Unit) (h' : zx_H), f_FilterText_appendBytes_3 n p0 p1 p2 h = some (r, h') → zx_T sc (d + 1) 114 (3, [(0, .ref p0), (1, .long p1), (3, .int p2)], []) h (zf_oV r) h' := by
  intro n
  induction n with
  | zero => intro p0 p1 p2 h r h' hf; cases hf
  | succ n ih =>
    intro p0 p1 p2 h r h' hf
    unfold f_FilterText_appendBytes_3 at hf
    refine zv_p (k := 1) (f' := (4, [(0, .ref p0), (1, .long p1), (3, .int p2)], [.int p2])) zq_114 zo_114 (by with_unfolding_all rfl) ?_
    replace hf := zf_ite hf
    obtain ⟨hc, hf⟩ | ⟨hc, hf⟩ := hf
    · refine zv_brT (off := 21) (tt := 25) (r := []) zq_114 zo_114 hc rfl rfl rfl ?_
      cases hf
      exact zv_r zq_114 zo_114 rfl rfl rfl rfl rfl
    · refine zv_brF (off := 21) (tt := 25) (r := []) zq_114 zo_114 hc rfl rfl rfl ?_
      refine zv_p (k := 4) (f' := (11, [(0, .ref p0), (1, .long p1), (3, .int p2)], [.long ((p1).toUInt64 >>> ((p2).toInt64.toUInt64 &&& Int64.toUInt64 63)).toInt64, .ref p0])) zq_114 zo_114 (by with_unfolding_all rfl) ?_
      refine zv_lng zq_114 zo_114 rfl rfl ?_
      refine zv_p (k := 2) (f' := (16, [(0, .ref p0), (1, .long p1), (3, .int p2)], [.int ((((p1).toUInt64 >>> ((p2).toInt64.toUInt64 &&& Int64.toUInt64 63)).toInt64 &&& (255 : Int64))).toInt32, .ref p0])) zq_114 zo_114 (by with_unfolding_all rfl) ?_
      replace hf := zf_be hf
      obtain ⟨_, ho, hf⟩ := hf
      replace hf := zf_b2e hf
      obtain ⟨v1, h2, hv, hf⟩ := hf
      refine zv_c zq_114 zo_114 rfl rfl rfl rfl rfl (zv_cv rfl rfl rfl (zf_ise ho) rfl) (t_f_FilterText_append _ _ _ _ _ hv) ?_
      refine zv_p (k := 2) (f' := (3, [(3, .int (p2 + (-8 : Int32))), (0, .ref p0), (1, .long p1)], [])) zq_114 zo_114 (by with_unfolding_all rfl) ?_
      refine zv_pick (lv' := [(0, .ref p0), (1, .long p1), (3, .int (p2 + (-8 : Int32)))]) [0, 1, 3] rfl rfl ?_
      exact ih _ _ _ _ _ _ hf
set_option maxHeartbeats 1000000 in
def f_FilterText_appendBytes (p0 : Nat) (p1 : Int64) (h : zx_H) : Option (Unit × zx_H) :=
  f_FilterText_appendBytes_3 zF p0 p1 (56 : Int32) h
set_option maxHeartbeats 4000000 in
set_option maxRecDepth 400000 in
theorem t_f_FilterText_appendBytes {sc : (Nat × (Nat → Int32)) × Bool} {d : Nat} (p0 : Nat) (p1 : Int64) (h : zx_H) (r : Unit) (h' : zx_H) (hf : f_FilterText_appendBytes p0 p1 h = some (r, h')) : zx_T sc (d + 1) 114 (0, [(0, .ref p0), (1, .long p1)], []) h (zf_oV r) h' := by
  unfold f_FilterText_appendBytes at hf
  refine zv_p (k := 2) (f' := (3, [(3, .int (56 : Int32)), (0, .ref p0), (1, .long p1)], [])) zq_114 zo_114 (by with_unfolding_all rfl) ?_
  refine zv_pick (lv' := [(0, .ref p0), (1, .long p1), (3, .int (56 : Int32))]) [0, 1, 3] rfl rfl ?_
  exact t_f_FilterText_appendBytes_3 zF _ _ _ _ _ _ hf
/-! ColumnVault.type (J)I -/
noncomputable def zI_112 : zd_T := [[(0, .aload_n 0, 1), (1, .getfield 21, 3), (4, .getfield 219, 3), (7, .lload_n 1, 1), (8, .invokestatic 222, 3), (11, .iadd, 1), (12, .sipush 160, 3), (15, .if_icmp .le 13, 3), (18, .new 70, 3), (21, .dup, 1), (22, .ldc 225, 2), (24, .invokespecial 74, 3), (27, .athrow, 1), (28, .aload_n 0, 1), (29, .getfield 21, 3)], [(32, .lload_n 1, 1), (33, .invokevirtual 227, 3), (36, .aload_n 0, 1), (37, .getfield 21, 3), (40, .getfield 219, 3), (43, .ireturn, 1)]]
theorem zo_112 : zd_of 112 = some zI_112 := rfl
set_option maxRecDepth 100000 in
theorem zq_112 : zt_m[112]? = some (⟨"ColumnVault", "type", "(J)I"⟩, prog_1_method_22_code, 3, some (.int), [], 12, 1, 0, 0, 0, 0) := rfl
set_option maxHeartbeats 1000000 in
def f_ColumnVault_type (p0 : Nat) (p1 : Int64) (h : zx_H) : Option ((Int32 ⊕ Nat) × zx_H) :=
  zf_b (zf_A 12 1 p0 h) fun v1 =>
  zf_b (zf_I 4 1 v1 h) fun v2 =>
  zf_b2 (f_ColumnVault_bytesIn p1 h) fun v3 h4 =>
  if (v2 + v3) ≤ (160 : Int32) then
    zf_b (zf_A 12 1 p0 h4) fun v5 =>
    zf_b (zf_is 4 v5 h4) fun _ =>
    zf_b2 (f_FilterText_appendBytes v5 p1 h4) fun _ h7 =>
    zf_b (zf_A 12 1 p0 h7) fun v8 =>
    zf_b (zf_I 4 1 v8 h7) fun v9 =>
    some (.inl v9, h7)
  else
    if h4.length < zx_lim then some (.inr 15, h4 ++ [.inr (15, [])]) else none
set_option maxHeartbeats 4000000 in
set_option maxRecDepth 400000 in
theorem t_f_ColumnVault_type {sc : (Nat × (Nat → Int32)) × Bool} {d : Nat} (p0 : Nat) (p1 : Int64) (h : zx_H) (r : (Int32 ⊕ Nat)) (h' : zx_H) (hf : f_ColumnVault_type p0 p1 h = some (r, h')) : zx_T sc (d + 2) 112 (0, [(0, .ref p0), (1, .long p1)], []) h (zf_oIx r) h' := by
  unfold f_ColumnVault_type at hf
  refine zv_p (k := 1) (f' := (1, [(0, .ref p0), (1, .long p1)], [.ref p0])) zq_112 zo_112 (by with_unfolding_all rfl) ?_
  replace hf := zf_be hf
  obtain ⟨v1, hv, hf⟩ := hf
  refine zv_gf zq_112 zo_112 rfl rfl rfl (zf_Ae hv) ?_
  replace hf := zf_be hf
  obtain ⟨v2, hv, hf⟩ := hf
  refine zv_gf zq_112 zo_112 rfl rfl rfl (zf_Ie hv) ?_
  refine zv_p (k := 1) (f' := (8, [(0, .ref p0), (1, .long p1)], [.long p1, .int v2])) zq_112 zo_112 (by with_unfolding_all rfl) ?_
  replace hf := zf_b2e hf
  obtain ⟨v3, h4, hv, hf⟩ := hf
  refine zv_c zq_112 zo_112 rfl rfl rfl rfl rfl rfl (t_f_ColumnVault_bytesIn _ _ _ _ hv) ?_
  refine zv_p (k := 2) (f' := (15, [(0, .ref p0), (1, .long p1)], [.int (160 : Int32), .int (v2 + v3)])) zq_112 zo_112 (by with_unfolding_all rfl) ?_
  replace hf := zf_ite hf
  obtain ⟨hc, hf⟩ | ⟨hc, hf⟩ := hf
  · refine zv_brT (off := 13) (tt := 28) (r := []) zq_112 zo_112 hc rfl rfl rfl ?_
    refine zv_p (k := 1) (f' := (29, [(0, .ref p0), (1, .long p1)], [.ref p0])) zq_112 zo_112 (by with_unfolding_all rfl) ?_
    replace hf := zf_be hf
    obtain ⟨v5, hv, hf⟩ := hf
    refine zv_gf zq_112 zo_112 rfl rfl rfl (zf_Ae hv) ?_
    refine zv_p (k := 1) (f' := (33, [(0, .ref p0), (1, .long p1)], [.long p1, .ref v5])) zq_112 zo_112 (by with_unfolding_all rfl) ?_
    replace hf := zf_be hf
    obtain ⟨_, ho, hf⟩ := hf
    replace hf := zf_b2e hf
    obtain ⟨v6, h7, hv, hf⟩ := hf
    refine zv_c zq_112 zo_112 rfl rfl rfl rfl rfl (zv_cv rfl rfl rfl (zf_ise ho) rfl) (t_f_FilterText_appendBytes _ _ _ _ _ hv) ?_
    refine zv_p (k := 1) (f' := (37, [(0, .ref p0), (1, .long p1)], [.ref p0])) zq_112 zo_112 (by with_unfolding_all rfl) ?_
    replace hf := zf_be hf
    obtain ⟨v8, hv, hf⟩ := hf
    refine zv_gf zq_112 zo_112 rfl rfl rfl (zf_Ae hv) ?_
    replace hf := zf_be hf
    obtain ⟨v9, hv, hf⟩ := hf
    refine zv_gf zq_112 zo_112 rfl rfl rfl (zf_Ie hv) ?_
    cases hf
    exact zv_rn zq_112 zo_112 rfl rfl
  · refine zv_brF (off := 13) (tt := 28) (r := []) zq_112 zo_112 hc rfl rfl rfl ?_
    replace hf := zf_ite hf
    obtain ⟨hc, hf⟩ | ⟨hc, hf⟩ := hf
    · cases hf; exact zv_t zq_112 zo_112 rfl rfl rfl rfl rfl rfl rfl rfl rfl hc
    · cases hf
/-! ColumnVault$Sheet.hasKindsOf (LColumnVault$Sheet;)Z -/
noncomputable def zI_117 : zd_T := [[(0, .aload_n 0, 1), (1, .getfield 22, 3), (4, .aload_n 1, 1), (5, .getfield 22, 3), (8, .if_icmp .ne 7, 3), (11, .iconst 1, 1), (12, .goto 4, 3), (15, .iconst 0, 1), (16, .istore_n 2, 1), (17, .iconst 0, 1), (18, .istore_n 3, 1), (19, .iload_n 3, 1), (20, .aload_n 0, 1), (21, .getfield 22, 3), (24, .if_icmp .ge 32, 3), (27, .iload_n 2, 1), (28, .ifCond .eq 28, 3), (31, .aload_n 0, 1)], [(32, .iload_n 3, 1), (33, .invokevirtual 39, 3), (36, .aload_n 1, 1), (37, .iload_n 3, 1), (38, .invokevirtual 39, 3), (41, .if_icmp .ne 7, 3), (44, .iconst 1, 1), (45, .goto 4, 3), (48, .iconst 0, 1), (49, .istore_n 2, 1), (50, .iinc 3 1, 3), (53, .goto (-34), 3), (56, .iload_n 2, 1), (57, .ireturn, 1)]]
theorem zo_117 : zd_of 117 = some zI_117 := rfl
set_option maxRecDepth 100000 in
theorem zq_117 : zt_m[117]? = some (⟨"ColumnVault$Sheet", "hasKindsOf", "(LColumnVault$Sheet;)Z"⟩, prog_10_method_5_code, 4, some (.boolean), [], 10, 1, 0, 0, 0, 0) := rfl
set_option maxHeartbeats 1000000 in
def f_Sheet_hasKindsOf_19 : Nat → Nat → Nat → Int32 → Int32 → zx_H → Option (Int32 × zx_H)
  | 0, _, _, _, _, _ => none
  | n + 1, p0, p1, p2, p3, h =>
    zf_b (zf_I 10 3 p0 h) fun v1 =>
    if v1 ≤ p3 then
      if narrow .boolean (.int p2) = .int p2 then some (p2, h) else none
    else
      if p2 = 0 then
        if narrow .boolean (.int p2) = .int p2 then some (p2, h) else none
      else
        zf_b (zf_is 10 p0 h) fun _ =>
        zf_b2 (f_Sheet_kindOf p0 p3 h) fun v2 h3 =>
        zf_b (zf_is 10 p1 h3) fun _ =>
        zf_b2 (f_Sheet_kindOf p1 p3 h3) fun v4 h5 =>
        if ¬ v2 = v4 then
          (f_Sheet_hasKindsOf_19 n) p0 p1 (0 : Int32) (p3 + (1 : Int32)) h5
        else
          (f_Sheet_hasKindsOf_19 n) p0 p1 (1 : Int32) (p3 + (1 : Int32)) h5
set_option maxHeartbeats 4000000 in
set_option maxRecDepth 400000 in
theorem t_f_Sheet_hasKindsOf_19 {sc : (Nat × (Nat → Int32)) × Bool} {d : Nat} : ∀ (n : Nat) (p0 : Nat) (p1 : Nat) (p2 : Int32) (p3 : Int32) (h : zx_H) (r : Int32) (h' : zx_H), f_Sheet_hasKindsOf_19 n p0 p1 p2 p3 h = some (r, h') → zx_T sc (d + 2) 117 (19, [(0, .ref p0), (1, .ref p1), (2, .int p2), (3, .int p3)], []) h (zf_oI r) h' := by
  intro n
  induction n with
  | zero => intro p0 p1 p2 p3 h r h' hf; cases hf
  | succ n ih =>
    intro p0 p1 p2 p3 h r h' hf
    unfold f_Sheet_hasKindsOf_19 at hf
    refine zv_p (k := 2) (f' := (21, [(0, .ref p0), (1, .ref p1), (2, .int p2), (3, .int p3)], [.ref p0, .int p3])) zq_117 zo_117 (by with_unfolding_all rfl) ?_
    replace hf := zf_be hf
    obtain ⟨v1, hv, hf⟩ := hf
    refine zv_gf zq_117 zo_117 rfl rfl rfl (zf_Ie hv) ?_
    replace hf := zf_ite hf
    obtain ⟨hc, hf⟩ | ⟨hc, hf⟩ := hf
    · refine zv_brT (off := 32) (tt := 56) (r := []) zq_117 zo_117 hc rfl rfl rfl ?_
      refine zv_p (k := 1) (f' := (57, [(0, .ref p0), (1, .ref p1), (2, .int p2), (3, .int p3)], [.int p2])) zq_117 zo_117 (by with_unfolding_all rfl) ?_
      replace hf := zf_ite hf
      obtain ⟨hc, hf⟩ | ⟨hc, hf⟩ := hf
      · cases hf; exact zv_rn zq_117 zo_117 rfl hc
      · cases hf
    · refine zv_brF (off := 32) (tt := 56) (r := []) zq_117 zo_117 hc rfl rfl rfl ?_
      refine zv_p (k := 1) (f' := (28, [(0, .ref p0), (1, .ref p1), (2, .int p2), (3, .int p3)], [.int p2])) zq_117 zo_117 (by with_unfolding_all rfl) ?_
      replace hf := zf_ite hf
      obtain ⟨hc, hf⟩ | ⟨hc, hf⟩ := hf
      · refine zv_brT (off := 28) (tt := 56) (r := []) zq_117 zo_117 hc rfl rfl rfl ?_
        refine zv_p (k := 1) (f' := (57, [(0, .ref p0), (1, .ref p1), (2, .int p2), (3, .int p3)], [.int p2])) zq_117 zo_117 (by with_unfolding_all rfl) ?_
        replace hf := zf_ite hf
        obtain ⟨hc, hf⟩ | ⟨hc, hf⟩ := hf
        · cases hf; exact zv_rn zq_117 zo_117 rfl hc
        · cases hf
      · refine zv_brF (off := 28) (tt := 56) (r := []) zq_117 zo_117 hc rfl rfl rfl ?_
        refine zv_p (k := 2) (f' := (33, [(0, .ref p0), (1, .ref p1), (2, .int p2), (3, .int p3)], [.int p3, .ref p0])) zq_117 zo_117 (by with_unfolding_all rfl) ?_
        replace hf := zf_be hf
        obtain ⟨_, ho, hf⟩ := hf
        replace hf := zf_b2e hf
        obtain ⟨v2, h3, hv, hf⟩ := hf
        refine zv_c zq_117 zo_117 rfl rfl rfl rfl rfl (zv_cv rfl rfl rfl (zf_ise ho) rfl) (t_f_Sheet_kindOf _ _ _ _ _ hv) ?_
        refine zv_p (k := 2) (f' := (38, [(0, .ref p0), (1, .ref p1), (2, .int p2), (3, .int p3)], [.int p3, .ref p1, .int v2])) zq_117 zo_117 (by with_unfolding_all rfl) ?_
        replace hf := zf_be hf
        obtain ⟨_, ho, hf⟩ := hf
        replace hf := zf_b2e hf
        obtain ⟨v4, h5, hv, hf⟩ := hf
        refine zv_c zq_117 zo_117 rfl rfl rfl rfl rfl (zv_cv rfl rfl rfl (zf_ise ho) rfl) (t_f_Sheet_kindOf _ _ _ _ _ hv) ?_
        replace hf := zf_ite hf
        obtain ⟨hc, hf⟩ | ⟨hc, hf⟩ := hf
        · refine zv_brT (off := 7) (tt := 48) (r := []) zq_117 zo_117 hc rfl rfl rfl ?_
          refine zv_p (k := 4) (f' := (19, [(3, .int (p3 + (1 : Int32))), (2, .int (0 : Int32)), (0, .ref p0), (1, .ref p1)], [])) zq_117 zo_117 (by with_unfolding_all rfl) ?_
          refine zv_pick (lv' := [(0, .ref p0), (1, .ref p1), (2, .int (0 : Int32)), (3, .int (p3 + (1 : Int32)))]) [0, 1, 2, 3] rfl rfl ?_
          exact ih _ _ _ _ _ _ _ hf
        · refine zv_brF (off := 7) (tt := 48) (r := []) zq_117 zo_117 hc rfl rfl rfl ?_
          refine zv_p (k := 5) (f' := (19, [(3, .int (p3 + (1 : Int32))), (2, .int (1 : Int32)), (0, .ref p0), (1, .ref p1)], [])) zq_117 zo_117 (by with_unfolding_all rfl) ?_
          refine zv_pick (lv' := [(0, .ref p0), (1, .ref p1), (2, .int (1 : Int32)), (3, .int (p3 + (1 : Int32)))]) [0, 1, 2, 3] rfl rfl ?_
          exact ih _ _ _ _ _ _ _ hf
set_option maxHeartbeats 1000000 in
def f_Sheet_hasKindsOf (p0 : Nat) (p1 : Nat) (h : zx_H) : Option (Int32 × zx_H) :=
  zf_b (zf_I 10 3 p0 h) fun v1 =>
  zf_b (zf_I 10 3 p1 h) fun v2 =>
  if ¬ v1 = v2 then
    f_Sheet_hasKindsOf_19 zF p0 p1 (0 : Int32) (0 : Int32) h
  else
    f_Sheet_hasKindsOf_19 zF p0 p1 (1 : Int32) (0 : Int32) h
set_option maxHeartbeats 4000000 in
set_option maxRecDepth 400000 in
theorem t_f_Sheet_hasKindsOf {sc : (Nat × (Nat → Int32)) × Bool} {d : Nat} (p0 : Nat) (p1 : Nat) (h : zx_H) (r : Int32) (h' : zx_H) (hf : f_Sheet_hasKindsOf p0 p1 h = some (r, h')) : zx_T sc (d + 2) 117 (0, [(0, .ref p0), (1, .ref p1)], []) h (zf_oI r) h' := by
  unfold f_Sheet_hasKindsOf at hf
  refine zv_p (k := 1) (f' := (1, [(0, .ref p0), (1, .ref p1)], [.ref p0])) zq_117 zo_117 (by with_unfolding_all rfl) ?_
  replace hf := zf_be hf
  obtain ⟨v1, hv, hf⟩ := hf
  refine zv_gf zq_117 zo_117 rfl rfl rfl (zf_Ie hv) ?_
  refine zv_p (k := 1) (f' := (5, [(0, .ref p0), (1, .ref p1)], [.ref p1, .int v1])) zq_117 zo_117 (by with_unfolding_all rfl) ?_
  replace hf := zf_be hf
  obtain ⟨v2, hv, hf⟩ := hf
  refine zv_gf zq_117 zo_117 rfl rfl rfl (zf_Ie hv) ?_
  replace hf := zf_ite hf
  obtain ⟨hc, hf⟩ | ⟨hc, hf⟩ := hf
  · refine zv_brT (off := 7) (tt := 15) (r := []) zq_117 zo_117 hc rfl rfl rfl ?_
    refine zv_p (k := 4) (f' := (19, [(3, .int (0 : Int32)), (2, .int (0 : Int32)), (0, .ref p0), (1, .ref p1)], [])) zq_117 zo_117 (by with_unfolding_all rfl) ?_
    refine zv_pick (lv' := [(0, .ref p0), (1, .ref p1), (2, .int (0 : Int32)), (3, .int (0 : Int32))]) [0, 1, 2, 3] rfl rfl ?_
    exact t_f_Sheet_hasKindsOf_19 zF _ _ _ _ _ _ _ hf
  · refine zv_brF (off := 7) (tt := 15) (r := []) zq_117 zo_117 hc rfl rfl rfl ?_
    refine zv_p (k := 5) (f' := (19, [(3, .int (0 : Int32)), (2, .int (1 : Int32)), (0, .ref p0), (1, .ref p1)], [])) zq_117 zo_117 (by with_unfolding_all rfl) ?_
    refine zv_pick (lv' := [(0, .ref p0), (1, .ref p1), (2, .int (1 : Int32)), (3, .int (0 : Int32))]) [0, 1, 2, 3] rfl rfl ?_
    exact t_f_Sheet_hasKindsOf_19 zF _ _ _ _ _ _ _ hf
/-! ColumnVault$Sheet.isAlike (ILColumnVault$Sheet;I)Z -/
noncomputable def zI_120 : zd_T := [[(0, .iconst 0, 1), (1, .istore 4, 2), (3, .iload 4, 2), (5, .aload_n 0, 1), (6, .getfield 22, 3), (9, .if_icmp .ge 29, 3), (12, .aload_n 0, 1), (13, .iload 4, 2), (15, .iload_n 1, 1), (16, .invokevirtual 52, 3), (19, .aload_n 2, 1), (20, .iload 4, 2), (22, .iload_n 3, 1), (23, .invokevirtual 52, 3), (26, .lcmp, 1), (27, .ifCond .eq 5, 3), (30, .iconst 0, 1), (31, .ireturn, 1)], [(32, .iinc 4 1, 3), (35, .goto (-32), 3), (38, .iconst 1, 1), (39, .ireturn, 1)]]
theorem zo_120 : zd_of 120 = some zI_120 := rfl
set_option maxRecDepth 100000 in
theorem zq_120 : zt_m[120]? = some (⟨"ColumnVault$Sheet", "isAlike", "(ILColumnVault$Sheet;I)Z"⟩, prog_10_method_30_code, 5, some (.boolean), [], 10, 3, 0, 0, 0, 0) := rfl
set_option maxHeartbeats 1000000 in
def f_Sheet_isAlike_3 : Nat → Nat → Int32 → Nat → Int32 → Int32 → zx_H → Option (Int32 × zx_H)
  | 0, _, _, _, _, _, _ => none
  | n + 1, p0, p1, p2, p3, p4, h =>
    zf_b (zf_I 10 3 p0 h) fun v1 =>
    if v1 ≤ p4 then
      some ((1 : Int32), h)
    else
      zf_b (zf_is 10 p0 h) fun _ =>
      zf_b2 (f_Sheet_keyAt p0 p4 p1 h) fun v2 h3 =>
      zf_b (zf_is 10 p2 h3) fun _ =>
      zf_b2 (f_Sheet_keyAt p2 p4 p3 h3) fun v4 h5 =>
      if v2 = v4 then
        (f_Sheet_isAlike_3 n) p0 p1 p2 p3 (p4 + (1 : Int32)) h5
      else
        some ((0 : Int32), h5)
set_option maxHeartbeats 4000000 in
set_option maxRecDepth 400000 in
theorem t_f_Sheet_isAlike_3 {sc : (Nat × (Nat → Int32)) × Bool} {d : Nat} : ∀ (n : Nat) (p0 : Nat) (p1 : Int32) (p2 : Nat) (p3 : Int32) (p4 : Int32) (h : zx_H) (r : Int32) (h' : zx_H), f_Sheet_isAlike_3 n p0 p1 p2 p3 p4 h = some (r, h') → zx_T sc (d + 1) 120 (3, [(0, .ref p0), (1, .int p1), (2, .ref p2), (3, .int p3), (4, .int p4)], []) h (zf_oI r) h' := by
  intro n
  induction n with
  | zero => intro p0 p1 p2 p3 p4 h r h' hf; cases hf
  | succ n ih =>
    intro p0 p1 p2 p3 p4 h r h' hf
    unfold f_Sheet_isAlike_3 at hf
    refine zv_p (k := 2) (f' := (6, [(0, .ref p0), (1, .int p1), (2, .ref p2), (3, .int p3), (4, .int p4)], [.ref p0, .int p4])) zq_120 zo_120 (by with_unfolding_all rfl) ?_
    replace hf := zf_be hf
    obtain ⟨v1, hv, hf⟩ := hf
    refine zv_gf zq_120 zo_120 rfl rfl rfl (zf_Ie hv) ?_
    replace hf := zf_ite hf
    obtain ⟨hc, hf⟩ | ⟨hc, hf⟩ := hf
    · refine zv_brT (off := 29) (tt := 38) (r := []) zq_120 zo_120 hc rfl rfl rfl ?_
      refine zv_p (k := 1) (f' := (39, [(0, .ref p0), (1, .int p1), (2, .ref p2), (3, .int p3), (4, .int p4)], [.int (1 : Int32)])) zq_120 zo_120 (by with_unfolding_all rfl) ?_
      cases hf
      exact zv_rn zq_120 zo_120 rfl rfl
    · refine zv_brF (off := 29) (tt := 38) (r := []) zq_120 zo_120 hc rfl rfl rfl ?_
      refine zv_p (k := 3) (f' := (16, [(0, .ref p0), (1, .int p1), (2, .ref p2), (3, .int p3), (4, .int p4)], [.int p1, .int p4, .ref p0])) zq_120 zo_120 (by with_unfolding_all rfl) ?_
      replace hf := zf_be hf
      obtain ⟨_, ho, hf⟩ := hf
      replace hf := zf_b2e hf
      obtain ⟨v2, h3, hv, hf⟩ := hf
      refine zv_c zq_120 zo_120 rfl rfl rfl rfl rfl (zv_cv rfl rfl rfl (zf_ise ho) rfl) (t_f_Sheet_keyAt _ _ _ _ _ _ hv) ?_
      refine zv_p (k := 3) (f' := (23, [(0, .ref p0), (1, .int p1), (2, .ref p2), (3, .int p3), (4, .int p4)], [.int p3, .int p4, .ref p2, .long v2])) zq_120 zo_120 (by with_unfolding_all rfl) ?_
      replace hf := zf_be hf
      obtain ⟨_, ho, hf⟩ := hf
      replace hf := zf_b2e hf
      obtain ⟨v4, h5, hv, hf⟩ := hf
      refine zv_c zq_120 zo_120 rfl rfl rfl rfl rfl (zv_cv rfl rfl rfl (zf_ise ho) rfl) (t_f_Sheet_keyAt _ _ _ _ _ _ hv) ?_
      refine zv_p (k := 1) (f' := (27, [(0, .ref p0), (1, .int p1), (2, .ref p2), (3, .int p3), (4, .int p4)], [.int (lg_cmp v2 v4)])) zq_120 zo_120 (by with_unfolding_all rfl) ?_
      replace hf := zf_ite hf
      obtain ⟨hc, hf⟩ | ⟨hc, hf⟩ := hf
      · refine zv_brT (off := 5) (tt := 32) (r := []) zq_120 zo_120 (zl_eq.mpr hc) rfl rfl rfl ?_
        refine zv_p (k := 2) (f' := (3, [(4, .int (p4 + (1 : Int32))), (0, .ref p0), (1, .int p1), (2, .ref p2), (3, .int p3)], [])) zq_120 zo_120 (by with_unfolding_all rfl) ?_
        refine zv_pick (lv' := [(0, .ref p0), (1, .int p1), (2, .ref p2), (3, .int p3), (4, .int (p4 + (1 : Int32)))]) [0, 1, 2, 3, 4] rfl rfl ?_
        exact ih _ _ _ _ _ _ _ _ hf
      · refine zv_brF (off := 5) (tt := 32) (r := []) zq_120 zo_120 (mt zl_eq.mp hc) rfl rfl rfl ?_
        refine zv_p (k := 1) (f' := (31, [(0, .ref p0), (1, .int p1), (2, .ref p2), (3, .int p3), (4, .int p4)], [.int (0 : Int32)])) zq_120 zo_120 (by with_unfolding_all rfl) ?_
        cases hf
        exact zv_rn zq_120 zo_120 rfl rfl
set_option maxHeartbeats 1000000 in
def f_Sheet_isAlike (p0 : Nat) (p1 : Int32) (p2 : Nat) (p3 : Int32) (h : zx_H) : Option (Int32 × zx_H) :=
  f_Sheet_isAlike_3 zF p0 p1 p2 p3 (0 : Int32) h
set_option maxHeartbeats 4000000 in
set_option maxRecDepth 400000 in
theorem t_f_Sheet_isAlike {sc : (Nat × (Nat → Int32)) × Bool} {d : Nat} (p0 : Nat) (p1 : Int32) (p2 : Nat) (p3 : Int32) (h : zx_H) (r : Int32) (h' : zx_H) (hf : f_Sheet_isAlike p0 p1 p2 p3 h = some (r, h')) : zx_T sc (d + 1) 120 (0, [(0, .ref p0), (1, .int p1), (2, .ref p2), (3, .int p3)], []) h (zf_oI r) h' := by
  unfold f_Sheet_isAlike at hf
  refine zv_p (k := 2) (f' := (3, [(4, .int (0 : Int32)), (0, .ref p0), (1, .int p1), (2, .ref p2), (3, .int p3)], [])) zq_120 zo_120 (by with_unfolding_all rfl) ?_
  refine zv_pick (lv' := [(0, .ref p0), (1, .int p1), (2, .ref p2), (3, .int p3), (4, .int (0 : Int32))]) [0, 1, 2, 3, 4] rfl rfl ?_
  exact t_f_Sheet_isAlike_3 zF _ _ _ _ _ _ _ _ hf
/-! ColumnVault$Sheet.chosenAlike (ILColumnVault$Sheet;)J -/
noncomputable def zI_119 : zd_T := [[(0, .lconst 0, 1), (1, .lstore_n 3, 1), (2, .iconst 0, 1), (3, .istore 5, 2), (5, .iload 5, 2), (7, .aload_n 2, 1), (8, .getfield 26, 3), (11, .if_icmp .ge 39, 3), (14, .aload_n 2, 1), (15, .getfield 29, 3), (18, .iload 5, 2), (20, .invokestatic 86, 3), (23, .ifCond .eq 21, 3), (26, .aload_n 0, 1), (27, .iload_n 1, 1), (28, .aload_n 2, 1), (29, .iload 5, 2), (31, .invokevirtual 102, 3)], [(34, .ifCond .eq 10, 3), (37, .lload_n 3, 1), (38, .lconst 1, 1), (39, .iload 5, 2), (41, .lshl, 1), (42, .lor, 1), (43, .lstore_n 3, 1), (44, .iinc 5 1, 3), (47, .goto (-42), 3), (50, .lload_n 3, 1), (51, .lreturn, 1)]]
theorem zo_119 : zd_of 119 = some zI_119 := rfl
set_option maxRecDepth 100000 in
theorem zq_119 : zt_m[119]? = some (⟨"ColumnVault$Sheet", "chosenAlike", "(ILColumnVault$Sheet;)J"⟩, prog_10_method_31_code, 6, some (.long), [], 10, 2, 0, 0, 0, 0) := rfl
set_option maxHeartbeats 1000000 in
def f_Sheet_chosenAlike_5 : Nat → Nat → Int32 → Nat → Int64 → Int32 → zx_H → Option (Int64 × zx_H)
  | 0, _, _, _, _, _, _ => none
  | n + 1, p0, p1, p2, p3, p4, h =>
    zf_b (zf_I 10 4 p2 h) fun v1 =>
    if v1 ≤ p4 then
      some (p3, h)
    else
      zf_b (zf_J 10 5 p2 h) fun v2 =>
      zf_b2 (f_ColumnVault_holdsRow v2 p4 h) fun v3 h4 =>
      if v3 = 0 then
        (f_Sheet_chosenAlike_5 n) p0 p1 p2 p3 (p4 + (1 : Int32)) h4
      else
        zf_b (zf_is 10 p0 h4) fun _ =>
        zf_b2 (f_Sheet_isAlike p0 p1 p2 p4 h4) fun v5 h6 =>
        if v5 = 0 then
          (f_Sheet_chosenAlike_5 n) p0 p1 p2 p3 (p4 + (1 : Int32)) h6
        else
          (f_Sheet_chosenAlike_5 n) p0 p1 p2 (p3 ||| ((1 : Int64) <<< ((p4).toInt64 &&& 63))) (p4 + (1 : Int32)) h6
set_option maxHeartbeats 4000000 in
set_option maxRecDepth 400000 in
theorem t_f_Sheet_chosenAlike_5 {sc : (Nat × (Nat → Int32)) × Bool} {d : Nat} : ∀ (n : Nat) (p0 : Nat) (p1 : Int32) (p2 : Nat) (p3 : Int64) (p4 : Int32) (h : zx_H) (r : Int64) (h' : zx_H), f_Sheet_chosenAlike_5 n p0 p1 p2 p3 p4 h = some (r, h') → zx_T sc (d + 2) 119 (5, [(0, .ref p0), (1, .int p1), (2, .ref p2), (3, .long p3), (5, .int p4)], []) h (zf_oJ r) h' := by
  intro n
  induction n with
  | zero => intro p0 p1 p2 p3 p4 h r h' hf; cases hf
  | succ n ih =>
    intro p0 p1 p2 p3 p4 h r h' hf
    unfold f_Sheet_chosenAlike_5 at hf
    refine zv_p (k := 2) (f' := (8, [(0, .ref p0), (1, .int p1), (2, .ref p2), (3, .long p3), (5, .int p4)], [.ref p2, .int p4])) zq_119 zo_119 (by with_unfolding_all rfl) ?_
    replace hf := zf_be hf
    obtain ⟨v1, hv, hf⟩ := hf
    refine zv_gf zq_119 zo_119 rfl rfl rfl (zf_Ie hv) ?_
    replace hf := zf_ite hf
    obtain ⟨hc, hf⟩ | ⟨hc, hf⟩ := hf
    · refine zv_brT (off := 39) (tt := 50) (r := []) zq_119 zo_119 hc rfl rfl rfl ?_
      refine zv_p (k := 1) (f' := (51, [(0, .ref p0), (1, .int p1), (2, .ref p2), (3, .long p3), (5, .int p4)], [.long p3])) zq_119 zo_119 (by with_unfolding_all rfl) ?_
      cases hf
      exact zv_r zq_119 zo_119 rfl rfl rfl rfl rfl
    · refine zv_brF (off := 39) (tt := 50) (r := []) zq_119 zo_119 hc rfl rfl rfl ?_
      refine zv_p (k := 1) (f' := (15, [(0, .ref p0), (1, .int p1), (2, .ref p2), (3, .long p3), (5, .int p4)], [.ref p2])) zq_119 zo_119 (by with_unfolding_all rfl) ?_
      replace hf := zf_be hf
      obtain ⟨v2, hv, hf⟩ := hf
      refine zv_gf zq_119 zo_119 rfl rfl rfl (zf_Je hv) ?_
      refine zv_p (k := 1) (f' := (20, [(0, .ref p0), (1, .int p1), (2, .ref p2), (3, .long p3), (5, .int p4)], [.int p4, .long v2])) zq_119 zo_119 (by with_unfolding_all rfl) ?_
      replace hf := zf_b2e hf
      obtain ⟨v3, h4, hv, hf⟩ := hf
      refine zv_c zq_119 zo_119 rfl rfl rfl rfl rfl rfl (t_f_ColumnVault_holdsRow _ _ _ _ _ hv) ?_
      replace hf := zf_ite hf
      obtain ⟨hc, hf⟩ | ⟨hc, hf⟩ := hf
      · refine zv_brT (off := 21) (tt := 44) (r := []) zq_119 zo_119 hc rfl rfl rfl ?_
        refine zv_p (k := 2) (f' := (5, [(5, .int (p4 + (1 : Int32))), (0, .ref p0), (1, .int p1), (2, .ref p2), (3, .long p3)], [])) zq_119 zo_119 (by with_unfolding_all rfl) ?_
        refine zv_pick (lv' := [(0, .ref p0), (1, .int p1), (2, .ref p2), (3, .long p3), (5, .int (p4 + (1 : Int32)))]) [0, 1, 2, 3, 5] rfl rfl ?_
        exact ih _ _ _ _ _ _ _ _ hf
      · refine zv_brF (off := 21) (tt := 44) (r := []) zq_119 zo_119 hc rfl rfl rfl ?_
        refine zv_p (k := 4) (f' := (31, [(0, .ref p0), (1, .int p1), (2, .ref p2), (3, .long p3), (5, .int p4)], [.int p4, .ref p2, .int p1, .ref p0])) zq_119 zo_119 (by with_unfolding_all rfl) ?_
        replace hf := zf_be hf
        obtain ⟨_, ho, hf⟩ := hf
        replace hf := zf_b2e hf
        obtain ⟨v5, h6, hv, hf⟩ := hf
        refine zv_c zq_119 zo_119 rfl rfl rfl rfl rfl (zv_cv rfl rfl rfl (zf_ise ho) rfl) (t_f_Sheet_isAlike _ _ _ _ _ _ _ hv) ?_
        replace hf := zf_ite hf
        obtain ⟨hc, hf⟩ | ⟨hc, hf⟩ := hf
        · refine zv_brT (off := 10) (tt := 44) (r := []) zq_119 zo_119 hc rfl rfl rfl ?_
          refine zv_p (k := 2) (f' := (5, [(5, .int (p4 + (1 : Int32))), (0, .ref p0), (1, .int p1), (2, .ref p2), (3, .long p3)], [])) zq_119 zo_119 (by with_unfolding_all rfl) ?_
          refine zv_pick (lv' := [(0, .ref p0), (1, .int p1), (2, .ref p2), (3, .long p3), (5, .int (p4 + (1 : Int32)))]) [0, 1, 2, 3, 5] rfl rfl ?_
          exact ih _ _ _ _ _ _ _ _ hf
        · refine zv_brF (off := 10) (tt := 44) (r := []) zq_119 zo_119 hc rfl rfl rfl ?_
          refine zv_p (k := 8) (f' := (5, [(5, .int (p4 + (1 : Int32))), (3, .long (p3 ||| ((1 : Int64) <<< ((p4).toInt64 &&& 63)))), (0, .ref p0), (1, .int p1), (2, .ref p2)], [])) zq_119 zo_119 (by with_unfolding_all rfl) ?_
          refine zv_pick (lv' := [(0, .ref p0), (1, .int p1), (2, .ref p2), (3, .long (p3 ||| ((1 : Int64) <<< ((p4).toInt64 &&& 63)))), (5, .int (p4 + (1 : Int32)))]) [0, 1, 2, 3, 5] rfl rfl ?_
          exact ih _ _ _ _ _ _ _ _ hf
set_option maxHeartbeats 1000000 in
def f_Sheet_chosenAlike (p0 : Nat) (p1 : Int32) (p2 : Nat) (h : zx_H) : Option (Int64 × zx_H) :=
  f_Sheet_chosenAlike_5 zF p0 p1 p2 (0 : Int64) (0 : Int32) h
set_option maxHeartbeats 4000000 in
set_option maxRecDepth 400000 in
theorem t_f_Sheet_chosenAlike {sc : (Nat × (Nat → Int32)) × Bool} {d : Nat} (p0 : Nat) (p1 : Int32) (p2 : Nat) (h : zx_H) (r : Int64) (h' : zx_H) (hf : f_Sheet_chosenAlike p0 p1 p2 h = some (r, h')) : zx_T sc (d + 2) 119 (0, [(0, .ref p0), (1, .int p1), (2, .ref p2)], []) h (zf_oJ r) h' := by
  unfold f_Sheet_chosenAlike at hf
  refine zv_p (k := 4) (f' := (5, [(5, .int (0 : Int32)), (3, .long (0 : Int64)), (0, .ref p0), (1, .int p1), (2, .ref p2)], [])) zq_119 zo_119 (by with_unfolding_all rfl) ?_
  refine zv_pick (lv' := [(0, .ref p0), (1, .int p1), (2, .ref p2), (3, .long (0 : Int64)), (5, .int (0 : Int32))]) [0, 1, 2, 3, 5] rfl rfl ?_
  exact t_f_Sheet_chosenAlike_5 zF _ _ _ _ _ _ _ _ hf
/-! ColumnVault$Sheet.rowsLeftBy (LColumnVault$Sheet;)I -/
noncomputable def zI_118 : zd_T := [[(0, .aload_n 0, 1), (1, .getfield 29, 3), (4, .lstore_n 2, 1), (5, .iconst 0, 1), (6, .istore 4, 2), (8, .iload 4, 2), (10, .aload_n 1, 1), (11, .getfield 26, 3), (14, .if_icmp .ge 45, 3), (17, .aload_n 1, 1), (18, .getfield 29, 3), (21, .iload 4, 2), (23, .invokestatic 86, 3), (26, .ifCond .eq 27, 3), (29, .lload_n 2, 1), (30, .aload_n 1, 1), (31, .iload 4, 2)], [(33, .aload_n 0, 1), (34, .invokevirtual 106, 3), (37, .land, 1), (38, .lstore 5, 2), (40, .lload_n 2, 1), (41, .lload 5, 2), (43, .lload 5, 2), (45, .lneg, 1), (46, .land, 1), (47, .ldc2_w 77, 3), (50, .lxor, 1), (51, .land, 1), (52, .lstore_n 2, 1), (53, .iinc 4 1, 3), (56, .goto (-48), 3), (59, .lload_n 2, 1), (60, .invokestatic 63, 3), (63, .ireturn, 1)], []]
theorem zo_118 : zd_of 118 = some zI_118 := rfl
set_option maxRecDepth 100000 in
theorem zq_118 : zt_m[118]? = some (⟨"ColumnVault$Sheet", "rowsLeftBy", "(LColumnVault$Sheet;)I"⟩, prog_10_method_34_code, 7, some (.int), [], 10, 1, 0, 0, 0, 0) := rfl
set_option maxHeartbeats 1000000 in
def f_Sheet_rowsLeftBy_8 : Nat → Nat → Nat → Int64 → Int32 → zx_H → Option (Int32 × zx_H)
  | 0, _, _, _, _, _ => none
  | n + 1, p0, p1, p2, p3, h =>
    zf_b (zf_I 10 4 p1 h) fun v1 =>
    if v1 ≤ p3 then
      zf_b2 (f_Long_bitCount p2 h) fun v2 h3 =>
      some (v2, h3)
    else
      zf_b (zf_J 10 5 p1 h) fun v4 =>
      zf_b2 (f_ColumnVault_holdsRow v4 p3 h) fun v5 h6 =>
      if v5 = 0 then
        (f_Sheet_rowsLeftBy_8 n) p0 p1 p2 (p3 + (1 : Int32)) h6
      else
        zf_b (zf_is 10 p1 h6) fun _ =>
        zf_b2 (f_Sheet_chosenAlike p1 p3 p0 h6) fun v7 h8 =>
        (f_Sheet_rowsLeftBy_8 n) p0 p1 (p2 &&& (((p2 &&& v7) &&& (-(p2 &&& v7))) ^^^ (-1 : Int64))) (p3 + (1 : Int32)) h8
set_option maxHeartbeats 4000000 in
set_option maxRecDepth 400000 in
theorem t_f_Sheet_rowsLeftBy_8 {sc : (Nat × (Nat → Int32)) × Bool} {d : Nat} : ∀ (n : Nat) (p0 : Nat) (p1 : Nat) (p2 : Int64) (p3 : Int32) (h : zx_H) (r : Int32) (h' : zx_H), f_Sheet_rowsLeftBy_8 n p0 p1 p2 p3 h = some (r, h') → zx_T sc (d + 3) 118 (8, [(0, .ref p0), (1, .ref p1), (2, .long p2), (4, .int p3)], []) h (zf_oI r) h' := by
  intro n
  induction n with
  | zero => intro p0 p1 p2 p3 h r h' hf; cases hf
  | succ n ih =>
    intro p0 p1 p2 p3 h r h' hf
    unfold f_Sheet_rowsLeftBy_8 at hf
    refine zv_p (k := 2) (f' := (11, [(0, .ref p0), (1, .ref p1), (2, .long p2), (4, .int p3)], [.ref p1, .int p3])) zq_118 zo_118 (by with_unfolding_all rfl) ?_
    replace hf := zf_be hf
    obtain ⟨v1, hv, hf⟩ := hf
    refine zv_gf zq_118 zo_118 rfl rfl rfl (zf_Ie hv) ?_
    replace hf := zf_ite hf
    obtain ⟨hc, hf⟩ | ⟨hc, hf⟩ := hf
    · refine zv_brT (off := 45) (tt := 59) (r := []) zq_118 zo_118 hc rfl rfl rfl ?_
      refine zv_p (k := 1) (f' := (60, [(0, .ref p0), (1, .ref p1), (2, .long p2), (4, .int p3)], [.long p2])) zq_118 zo_118 (by with_unfolding_all rfl) ?_
      replace hf := zf_b2e hf
      obtain ⟨v2, h3, hv, hf⟩ := hf
      refine zv_c zq_118 zo_118 rfl rfl rfl rfl rfl rfl (t_f_Long_bitCount _ _ _ _ hv) ?_
      cases hf
      exact zv_rn zq_118 zo_118 rfl rfl
    · refine zv_brF (off := 45) (tt := 59) (r := []) zq_118 zo_118 hc rfl rfl rfl ?_
      refine zv_p (k := 1) (f' := (18, [(0, .ref p0), (1, .ref p1), (2, .long p2), (4, .int p3)], [.ref p1])) zq_118 zo_118 (by with_unfolding_all rfl) ?_
      replace hf := zf_be hf
      obtain ⟨v4, hv, hf⟩ := hf
      refine zv_gf zq_118 zo_118 rfl rfl rfl (zf_Je hv) ?_
      refine zv_p (k := 1) (f' := (23, [(0, .ref p0), (1, .ref p1), (2, .long p2), (4, .int p3)], [.int p3, .long v4])) zq_118 zo_118 (by with_unfolding_all rfl) ?_
      replace hf := zf_b2e hf
      obtain ⟨v5, h6, hv, hf⟩ := hf
      refine zv_c zq_118 zo_118 rfl rfl rfl rfl rfl rfl (t_f_ColumnVault_holdsRow _ _ _ _ _ hv) ?_
      replace hf := zf_ite hf
      obtain ⟨hc, hf⟩ | ⟨hc, hf⟩ := hf
      · refine zv_brT (off := 27) (tt := 53) (r := []) zq_118 zo_118 hc rfl rfl rfl ?_
        refine zv_p (k := 2) (f' := (8, [(4, .int (p3 + (1 : Int32))), (0, .ref p0), (1, .ref p1), (2, .long p2)], [])) zq_118 zo_118 (by with_unfolding_all rfl) ?_
        refine zv_pick (lv' := [(0, .ref p0), (1, .ref p1), (2, .long p2), (4, .int (p3 + (1 : Int32)))]) [0, 1, 2, 4] rfl rfl ?_
        exact ih _ _ _ _ _ _ _ hf
      · refine zv_brF (off := 27) (tt := 53) (r := []) zq_118 zo_118 hc rfl rfl rfl ?_
        refine zv_p (k := 4) (f' := (34, [(0, .ref p0), (1, .ref p1), (2, .long p2), (4, .int p3)], [.ref p0, .int p3, .ref p1, .long p2])) zq_118 zo_118 (by with_unfolding_all rfl) ?_
        replace hf := zf_be hf
        obtain ⟨_, ho, hf⟩ := hf
        replace hf := zf_b2e hf
        obtain ⟨v7, h8, hv, hf⟩ := hf
        refine zv_c zq_118 zo_118 rfl rfl rfl rfl rfl (zv_cv rfl rfl rfl (zf_ise ho) rfl) (t_f_Sheet_chosenAlike _ _ _ _ _ _ hv) ?_
        refine zv_p (k := 7) (f' := (47, [(5, .long (p2 &&& v7)), (0, .ref p0), (1, .ref p1), (2, .long p2), (4, .int p3)], [.long ((p2 &&& v7) &&& (-(p2 &&& v7))), .long p2])) zq_118 zo_118 (by with_unfolding_all rfl) ?_
        refine zv_lng zq_118 zo_118 rfl rfl ?_
        refine zv_p (k := 5) (f' := (8, [(4, .int (p3 + (1 : Int32))), (2, .long (p2 &&& (((p2 &&& v7) &&& (-(p2 &&& v7))) ^^^ (-1 : Int64)))), (5, .long (p2 &&& v7)), (0, .ref p0), (1, .ref p1)], [])) zq_118 zo_118 (by with_unfolding_all rfl) ?_
        refine zv_pick (lv' := [(0, .ref p0), (1, .ref p1), (2, .long (p2 &&& (((p2 &&& v7) &&& (-(p2 &&& v7))) ^^^ (-1 : Int64)))), (4, .int (p3 + (1 : Int32)))]) [0, 1, 2, 4] rfl rfl ?_
        exact ih _ _ _ _ _ _ _ hf
set_option maxHeartbeats 1000000 in
def f_Sheet_rowsLeftBy (p0 : Nat) (p1 : Nat) (h : zx_H) : Option (Int32 × zx_H) :=
  zf_b (zf_J 10 5 p0 h) fun v1 =>
  f_Sheet_rowsLeftBy_8 zF p0 p1 v1 (0 : Int32) h
set_option maxHeartbeats 4000000 in
set_option maxRecDepth 400000 in
theorem t_f_Sheet_rowsLeftBy {sc : (Nat × (Nat → Int32)) × Bool} {d : Nat} (p0 : Nat) (p1 : Nat) (h : zx_H) (r : Int32) (h' : zx_H) (hf : f_Sheet_rowsLeftBy p0 p1 h = some (r, h')) : zx_T sc (d + 3) 118 (0, [(0, .ref p0), (1, .ref p1)], []) h (zf_oI r) h' := by
  unfold f_Sheet_rowsLeftBy at hf
  refine zv_p (k := 1) (f' := (1, [(0, .ref p0), (1, .ref p1)], [.ref p0])) zq_118 zo_118 (by with_unfolding_all rfl) ?_
  replace hf := zf_be hf
  obtain ⟨v1, hv, hf⟩ := hf
  refine zv_gf zq_118 zo_118 rfl rfl rfl (zf_Je hv) ?_
  refine zv_p (k := 3) (f' := (8, [(4, .int (0 : Int32)), (2, .long v1), (0, .ref p0), (1, .ref p1)], [])) zq_118 zo_118 (by with_unfolding_all rfl) ?_
  refine zv_pick (lv' := [(0, .ref p0), (1, .ref p1), (2, .long v1), (4, .int (0 : Int32))]) [0, 1, 2, 4] rfl rfl ?_
  exact t_f_Sheet_rowsLeftBy_8 zF _ _ _ _ _ _ _ hf
