/-! ColumnVault.kind (II)I -/
noncomputable def zI_128 : zd_T := [[(0, .aload_n 0, 1), (1, .iload_n 1, 1), (2, .iload_n 2, 1), (3, .invokevirtual 91, 3), (6, .iload_n 2, 1), (7, .invokevirtual 95, 3), (10, .ireturn, 1)]]
theorem zo_128 : zd_of 128 = some zI_128 := rfl
set_option maxRecDepth 100000 in
theorem zq_128 : zt_m[128]? = some (⟨"ColumnVault", "kind", "(II)I"⟩, prog_1_method_9_code, 3, some (.int), [], 12, 2, 0, 0, 0, 0) := rfl
set_option maxHeartbeats 1000000 in
def f_ColumnVault_kind (p0 : Nat) (p1 : Int32) (p2 : Int32) (h : zx_H) : Option ((Int32 ⊕ Nat) × zx_H) :=
  zf_b (zf_is 12 p0 h) fun _ =>
  zf_b3 (f_ColumnVault_sheetWith p0 p1 p2 h) fun v1 h2 =>
  zf_b (zf_is 10 v1 h2) fun _ =>
  zf_b2 (f_Sheet_kindOf v1 p2 h2) fun v4 h5 =>
  some (.inl v4, h5)
set_option maxHeartbeats 4000000 in
set_option maxRecDepth 400000 in
theorem t_f_ColumnVault_kind {sc : (Nat × (Nat → Int32)) × Bool} {d : Nat} (p0 : Nat) (p1 : Int32) (p2 : Int32) (h : zx_H) (r : (Int32 ⊕ Nat)) (h' : zx_H) (hf : f_ColumnVault_kind p0 p1 p2 h = some (r, h')) : zx_T sc (d + 3) 128 (0, [(0, .ref p0), (1, .int p1), (2, .int p2)], []) h (zf_oIx r) h' := by
  unfold f_ColumnVault_kind at hf
  refine zv_p (k := 3) (f' := (3, [(0, .ref p0), (1, .int p1), (2, .int p2)], [.int p2, .int p1, .ref p0])) zq_128 zo_128 (by with_unfolding_all rfl) ?_
  replace hf := zf_be hf
  obtain ⟨_, ho, hf⟩ := hf
  replace hf := zf_b3e hf
  obtain ⟨v1, h2, hv, hf⟩ | ⟨E3, h2, hv, hf⟩ := hf
  rotate_left
  · cases hf; exact zv_cx zq_128 zo_128 rfl rfl rfl rfl rfl (zv_cv rfl rfl rfl (zf_ise ho) rfl) (t_f_ColumnVault_sheetWith _ _ _ _ _ _ hv) rfl
  refine zv_c zq_128 zo_128 rfl rfl rfl rfl rfl (zv_cv rfl rfl rfl (zf_ise ho) rfl) (t_f_ColumnVault_sheetWith _ _ _ _ _ _ hv) ?_
  refine zv_p (k := 1) (f' := (7, [(0, .ref p0), (1, .int p1), (2, .int p2)], [.int p2, .ref v1])) zq_128 zo_128 (by with_unfolding_all rfl) ?_
  replace hf := zf_be hf
  obtain ⟨_, ho, hf⟩ := hf
  replace hf := zf_b2e hf
  obtain ⟨v4, h5, hv, hf⟩ := hf
  refine zv_c zq_128 zo_128 rfl rfl rfl rfl rfl (zv_cv rfl rfl rfl (zf_ise ho) rfl) (t_f_Sheet_kindOf _ _ _ _ _ hv) ?_
  cases hf
  exact zv_rn zq_128 zo_128 rfl rfl
/-! AbstractStringBuilder.init (I)V -/
noncomputable def zI_132 : zd_T := [[(0, .aload_n 0, 1), (1, .invokespecial 3, 3), (4, .getstatic 18, 3), (7, .ifCond .eq 18, 3), (10, .aload_n 0, 1), (11, .iload_n 1, 1), (12, .newarray .byte, 2), (14, .putfield 15, 3), (17, .aload_n 0, 1), (18, .iconst 0, 1), (19, .putfield 22, 3), (22, .goto 16, 3), (25, .aload_n 0, 1), (26, .iload_n 1, 1), (27, .invokestatic 26, 3), (30, .putfield 15, 3)], [(33, .aload_n 0, 1), (34, .iconst 1, 1), (35, .putfield 22, 3), (38, .return_, 1)]]
theorem zo_132 : zd_of 132 = some zI_132 := rfl
set_option maxRecDepth 100000 in
theorem zq_132 : zt_m[132]? = some (⟨"java/lang/AbstractStringBuilder", "<init>", "(I)V"⟩, prog_17_method_2_code, 2, none, [], 20, 1, 0, 2, 99999, 0) := rfl
set_option maxHeartbeats 1000000 in
def f_AbstractStringBuilder_init (p0 : Nat) (p1 : Int32) (h : zx_H) : Option (Unit × zx_H) :=
  if (1 : Int32) = 0 then
    none
  else
    zf_b2 (zf_newa .byte 3 p1 h) fun q1 h2 =>
    zf_b (zf_put 1 0 p0 (.ref q1) h2) fun h3 =>
    zf_b (zf_put 1 1 p0 (.int (0 : Int32)) h3) fun h4 =>
    some ((), h4)
set_option maxHeartbeats 4000000 in
set_option maxRecDepth 400000 in
theorem t_f_AbstractStringBuilder_init {sc : (Nat × (Nat → Int32)) × Bool} {d : Nat} (p0 : Nat) (p1 : Int32) (h : zx_H) (r : Unit) (h' : zx_H) (hf : f_AbstractStringBuilder_init p0 p1 h = some (r, h')) : zx_T sc d 132 (0, [(0, .ref p0), (1, .int p1)], []) h (zf_oV r) h' := by
  unfold f_AbstractStringBuilder_init at hf
  refine zv_p (k := 1) (f' := (1, [(0, .ref p0), (1, .int p1)], [.ref p0])) zq_132 zo_132 (by with_unfolding_all rfl) ?_
  refine zv_oi zq_132 zo_132 rfl rfl rfl ?_
  refine zv_gs zq_132 zo_132 rfl rfl rfl ?_
  replace hf := zf_ite hf
  obtain ⟨hc, hf⟩ | ⟨hc, hf⟩ := hf
  · refine zv_brT (off := 18) (tt := 25) (r := []) zq_132 zo_132 hc rfl rfl rfl ?_
    refine zv_p (k := 2) (f' := (27, [(0, .ref p0), (1, .int p1)], [.int p1, .ref p0])) zq_132 zo_132 (by with_unfolding_all rfl) ?_
    cases hf
  · refine zv_brF (off := 18) (tt := 25) (r := []) zq_132 zo_132 hc rfl rfl rfl ?_
    refine zv_p (k := 2) (f' := (12, [(0, .ref p0), (1, .int p1)], [.int p1, .ref p0])) zq_132 zo_132 (by with_unfolding_all rfl) ?_
    replace hf := zf_b2e hf
    obtain ⟨q1, h2, hv, hf⟩ := hf
    refine zv_newa zq_132 zo_132 rfl rfl hv ?_
    replace hf := zf_be hf
    obtain ⟨h3, hv, hf⟩ := hf
    refine zv_pf zq_132 zo_132 rfl rfl rfl rfl hv ?_
    refine zv_p (k := 2) (f' := (19, [(0, .ref p0), (1, .int p1)], [.int (0 : Int32), .ref p0])) zq_132 zo_132 (by with_unfolding_all rfl) ?_
    replace hf := zf_be hf
    obtain ⟨h4, hv, hf⟩ := hf
    refine zv_pf zq_132 zo_132 rfl rfl rfl rfl hv ?_
    refine zv_p (k := 1) (f' := (38, [(0, .ref p0), (1, .int p1)], [])) zq_132 zo_132 (by with_unfolding_all rfl) ?_
    cases hf
    exact zv_r zq_132 zo_132 rfl rfl rfl rfl rfl
/-! StringBuilder.init ()V -/
noncomputable def zI_131 : zd_T := [[(0, .aload_n 0, 1), (1, .bipush 16, 2), (3, .invokespecial 1, 3), (6, .return_, 1)]]
theorem zo_131 : zd_of 131 = some zI_131 := rfl
set_option maxRecDepth 100000 in
theorem zq_131 : zt_m[131]? = some (⟨"java/lang/StringBuilder", "<init>", "()V"⟩, prog_32_method_1_code, 1, none, [], 1, 0, 0, 2, 99999, 0) := rfl
set_option maxHeartbeats 1000000 in
def f_StringBuilder_init (p0 : Nat) (h : zx_H) : Option (Unit × zx_H) :=
  zf_b2 (f_AbstractStringBuilder_init p0 (16 : Int32) h) fun _ h2 =>
  some ((), h2)
set_option maxHeartbeats 4000000 in
set_option maxRecDepth 400000 in
theorem t_f_StringBuilder_init {sc : (Nat × (Nat → Int32)) × Bool} {d : Nat} (p0 : Nat) (h : zx_H) (r : Unit) (h' : zx_H) (hf : f_StringBuilder_init p0 h = some (r, h')) : zx_T sc (d + 1) 131 (0, [(0, .ref p0)], []) h (zf_oV r) h' := by
  unfold f_StringBuilder_init at hf
  refine zv_p (k := 2) (f' := (3, [(0, .ref p0)], [.int (16 : Int32), .ref p0])) zq_131 zo_131 (by with_unfolding_all rfl) ?_
  replace hf := zf_b2e hf
  obtain ⟨v1, h2, hv, hf⟩ := hf
  refine zv_c zq_131 zo_131 rfl rfl rfl rfl rfl rfl (t_f_AbstractStringBuilder_init _ _ _ _ _ hv) ?_
  cases hf
  exact zv_r zq_131 zo_131 rfl rfl rfl rfl rfl
/-! ArraysSupport.hugeLength (II)I -/
noncomputable def zI_140 : zd_T := [[(0, .iload_n 0, 1), (1, .iload_n 1, 1), (2, .iadd, 1), (3, .istore_n 2, 1), (4, .iload_n 2, 1), (5, .ifCond .ge 44, 3), (8, .new 204, 3), (11, .dup, 1), (12, .new 89, 3), (15, .dup, 1), (16, .invokespecial 91, 3), (19, .ldc 206, 2), (21, .invokevirtual 94, 3), (24, .iload_n 0, 1), (25, .invokevirtual 98, 3), (28, .ldc 208, 2), (30, .invokevirtual 94, 3)], [(33, .iload_n 1, 1), (34, .invokevirtual 98, 3), (37, .ldc 210, 2), (39, .invokevirtual 94, 3), (42, .invokevirtual 101, 3), (45, .invokespecial 212, 3), (48, .athrow, 1), (49, .iload_n 2, 1), (50, .ldc 200, 2), (52, .if_icmp .gt 6, 3), (55, .ldc 200, 2), (57, .ireturn, 1), (58, .iload_n 2, 1), (59, .ireturn, 1)]]
theorem zo_140 : zd_of 140 = some zI_140 := rfl
set_option maxRecDepth 100000 in
theorem zq_140 : zt_m[140]? = some (⟨"jdk/internal/util/ArraysSupport", "hugeLength", "(II)I"⟩, prog_43_method_28_code, 3, some (.int), [], 22, 2, 0, 1, 99999, 0) := rfl
set_option maxHeartbeats 1000000 in
def f_ArraysSupport_hugeLength (p0 : Int32) (p1 : Int32) (h : zx_H) : Option (Int32 × zx_H) :=
  if 0 ≤ (p0 + p1) then
    if (2147483639 : Int32) < (p0 + p1) then
      some ((p0 + p1), h)
    else
      some ((2147483639 : Int32), h)
  else
    none
set_option maxHeartbeats 4000000 in
set_option maxRecDepth 400000 in
theorem t_f_ArraysSupport_hugeLength {sc : (Nat × (Nat → Int32)) × Bool} {d : Nat} (p0 : Int32) (p1 : Int32) (h : zx_H) (r : Int32) (h' : zx_H) (hf : f_ArraysSupport_hugeLength p0 p1 h = some (r, h')) : zx_T sc d 140 (0, [(0, .int p0), (1, .int p1)], []) h (zf_oI r) h' := by
  unfold f_ArraysSupport_hugeLength at hf
  refine zv_p (k := 5) (f' := (5, [(2, .int (p0 + p1)), (0, .int p0), (1, .int p1)], [.int (p0 + p1)])) zq_140 zo_140 (by with_unfolding_all rfl) ?_
  replace hf := zf_ite hf
  obtain ⟨hc, hf⟩ | ⟨hc, hf⟩ := hf
  · refine zv_brT (off := 44) (tt := 49) (r := []) zq_140 zo_140 hc rfl rfl rfl ?_
    refine zv_p (k := 1) (f' := (50, [(2, .int (p0 + p1)), (0, .int p0), (1, .int p1)], [.int (p0 + p1)])) zq_140 zo_140 (by with_unfolding_all rfl) ?_
    refine zv_ldi zq_140 zo_140 rfl rfl rfl ?_
    replace hf := zf_ite hf
    obtain ⟨hc, hf⟩ | ⟨hc, hf⟩ := hf
    · refine zv_brT (off := 6) (tt := 58) (r := []) zq_140 zo_140 hc rfl rfl rfl ?_
      refine zv_p (k := 1) (f' := (59, [(2, .int (p0 + p1)), (0, .int p0), (1, .int p1)], [.int (p0 + p1)])) zq_140 zo_140 (by with_unfolding_all rfl) ?_
      cases hf
      exact zv_rn zq_140 zo_140 rfl rfl
    · refine zv_brF (off := 6) (tt := 58) (r := []) zq_140 zo_140 hc rfl rfl rfl ?_
      refine zv_ldi zq_140 zo_140 rfl rfl rfl ?_
      cases hf
      exact zv_rn zq_140 zo_140 rfl rfl
  · refine zv_brF (off := 44) (tt := 49) (r := []) zq_140 zo_140 hc rfl rfl rfl ?_
    cases hf
/-! ArraysSupport.newLength (III)I -/
noncomputable def zI_139 : zd_T := [[(0, .iload_n 0, 1), (1, .iload_n 1, 1), (2, .iload_n 2, 1), (3, .invokestatic 194, 3), (6, .iadd, 1), (7, .istore_n 3, 1), (8, .iconst 0, 1), (9, .iload_n 3, 1), (10, .if_icmp .ge 11, 3), (13, .iload_n 3, 1), (14, .ldc 200, 2), (16, .if_icmp .gt 5, 3), (19, .iload_n 3, 1), (20, .ireturn, 1), (21, .iload_n 0, 1), (22, .iload_n 1, 1), (23, .invokestatic 201, 3), (26, .ireturn, 1)]]
theorem zo_139 : zd_of 139 = some zI_139 := rfl
set_option maxRecDepth 100000 in
theorem zq_139 : zt_m[139]? = some (⟨"jdk/internal/util/ArraysSupport", "newLength", "(III)I"⟩, prog_43_method_27_code, 4, some (.int), [], 22, 3, 0, 1, 99999, 0) := rfl
set_option maxHeartbeats 1000000 in
def f_ArraysSupport_newLength (p0 : Int32) (p1 : Int32) (p2 : Int32) (h : zx_H) : Option (Int32 × zx_H) :=
  if (p0 + (if p1 < p2 then p2 else p1)) ≤ (0 : Int32) then
    zf_b2 (f_ArraysSupport_hugeLength p0 p1 h) fun v1 h2 =>
    some (v1, h2)
  else
    if (2147483639 : Int32) < (p0 + (if p1 < p2 then p2 else p1)) then
      zf_b2 (f_ArraysSupport_hugeLength p0 p1 h) fun v3 h4 =>
      some (v3, h4)
    else
      some ((p0 + (if p1 < p2 then p2 else p1)), h)
set_option maxHeartbeats 4000000 in
set_option maxRecDepth 400000 in
theorem t_f_ArraysSupport_newLength {sc : (Nat × (Nat → Int32)) × Bool} {d : Nat} (p0 : Int32) (p1 : Int32) (p2 : Int32) (h : zx_H) (r : Int32) (h' : zx_H) (hf : f_ArraysSupport_newLength p0 p1 p2 h = some (r, h')) : zx_T sc (d + 1) 139 (0, [(0, .int p0), (1, .int p1), (2, .int p2)], []) h (zf_oI r) h' := by
  unfold f_ArraysSupport_newLength at hf
  refine zv_p (k := 3) (f' := (3, [(0, .int p0), (1, .int p1), (2, .int p2)], [.int p2, .int p1, .int p0])) zq_139 zo_139 (by with_unfolding_all rfl) ?_
  refine zv_mm0 zq_139 zo_139 rfl rfl rfl ?_
  refine zv_p (k := 4) (f' := (10, [(3, .int (p0 + (if p1 < p2 then p2 else p1))), (0, .int p0), (1, .int p1), (2, .int p2)], [.int (p0 + (if p1 < p2 then p2 else p1)), .int (0 : Int32)])) zq_139 zo_139 (by with_unfolding_all rfl) ?_
  replace hf := zf_ite hf
  obtain ⟨hc, hf⟩ | ⟨hc, hf⟩ := hf
  · refine zv_brT (off := 11) (tt := 21) (r := []) zq_139 zo_139 hc rfl rfl rfl ?_
    refine zv_p (k := 2) (f' := (23, [(3, .int (p0 + (if p1 < p2 then p2 else p1))), (0, .int p0), (1, .int p1), (2, .int p2)], [.int p1, .int p0])) zq_139 zo_139 (by with_unfolding_all rfl) ?_
    replace hf := zf_b2e hf
    obtain ⟨v1, h2, hv, hf⟩ := hf
    refine zv_c zq_139 zo_139 rfl rfl rfl rfl rfl rfl (t_f_ArraysSupport_hugeLength _ _ _ _ _ hv) ?_
    cases hf
    exact zv_rn zq_139 zo_139 rfl rfl
  · refine zv_brF (off := 11) (tt := 21) (r := []) zq_139 zo_139 hc rfl rfl rfl ?_
    refine zv_p (k := 1) (f' := (14, [(3, .int (p0 + (if p1 < p2 then p2 else p1))), (0, .int p0), (1, .int p1), (2, .int p2)], [.int (p0 + (if p1 < p2 then p2 else p1))])) zq_139 zo_139 (by with_unfolding_all rfl) ?_
    refine zv_ldi zq_139 zo_139 rfl rfl rfl ?_
    replace hf := zf_ite hf
    obtain ⟨hc, hf⟩ | ⟨hc, hf⟩ := hf
    · refine zv_brT (off := 5) (tt := 21) (r := []) zq_139 zo_139 hc rfl rfl rfl ?_
      refine zv_p (k := 2) (f' := (23, [(3, .int (p0 + (if p1 < p2 then p2 else p1))), (0, .int p0), (1, .int p1), (2, .int p2)], [.int p1, .int p0])) zq_139 zo_139 (by with_unfolding_all rfl) ?_
      replace hf := zf_b2e hf
      obtain ⟨v3, h4, hv, hf⟩ := hf
      refine zv_c zq_139 zo_139 rfl rfl rfl rfl rfl rfl (t_f_ArraysSupport_hugeLength _ _ _ _ _ hv) ?_
      cases hf
      exact zv_rn zq_139 zo_139 rfl rfl
    · refine zv_brF (off := 5) (tt := 21) (r := []) zq_139 zo_139 hc rfl rfl rfl ?_
      refine zv_p (k := 1) (f' := (20, [(3, .int (p0 + (if p1 < p2 then p2 else p1))), (0, .int p0), (1, .int p1), (2, .int p2)], [.int (p0 + (if p1 < p2 then p2 else p1))])) zq_139 zo_139 (by with_unfolding_all rfl) ?_
      cases hf
      exact zv_rn zq_139 zo_139 rfl rfl
/-! AbstractStringBuilder.newCapacity (I)I -/
noncomputable def zI_138 : zd_T := [[(0, .aload_n 0, 1), (1, .getfield 15, 3), (4, .arraylength, 1), (5, .istore_n 2, 1), (6, .iload_n 1, 1), (7, .aload_n 0, 1), (8, .getfield 22, 3), (11, .ishl, 1), (12, .istore_n 3, 1), (13, .iload_n 3, 1), (14, .iload_n 2, 1), (15, .isub, 1), (16, .istore 4, 2), (18, .iload_n 2, 1), (19, .iload 4, 2), (21, .iload_n 2, 1), (22, .iconst 2, 1), (23, .aload_n 0, 1), (24, .getfield 22, 3), (27, .ishl, 1), (28, .iadd, 1), (29, .invokestatic 114, 3)], [(32, .istore 5, 2), (34, .iload 5, 2), (36, .ldc 39, 2), (38, .if_icmp .ne 13, 3), (41, .new 120, 3), (44, .dup, 1), (45, .ldc 122, 2), (47, .invokespecial 124, 3), (50, .athrow, 1), (51, .iload 5, 2), (53, .aload_n 0, 1), (54, .getfield 22, 3), (57, .ishr, 1), (58, .ireturn, 1)]]
theorem zo_138 : zd_of 138 = some zI_138 := rfl
set_option maxRecDepth 100000 in
theorem zq_138 : zt_m[138]? = some (⟨"java/lang/AbstractStringBuilder", "newCapacity", "(I)I"⟩, prog_17_method_10_code, 6, some (.int), [], 20, 1, 0, 0, 99999, 0) := rfl
set_option maxHeartbeats 1000000 in
def f_AbstractStringBuilder_newCapacity (p0 : Nat) (p1 : Int32) (h : zx_H) : Option (Int32 × zx_H) :=
  zf_b (zf_A 1 0 p0 h) fun v1 =>
  zf_b (zf_len v1 h) fun v2 =>
  zf_b (zf_I 1 1 p0 h) fun v3 =>
  zf_b (zf_I 1 1 p0 h) fun v4 =>
  zf_b2 (f_ArraysSupport_newLength v2 ((p1 <<< (v3 &&& 31)) - v2) (v2 + ((2 : Int32) <<< (v4 &&& 31))) h) fun v5 h6 =>
  if ¬ v5 = (2147483647 : Int32) then
    zf_b (zf_I 1 1 p0 h6) fun v7 =>
    some ((v5 >>> (v7 &&& 31)), h6)
  else
    none
set_option maxHeartbeats 4000000 in
set_option maxRecDepth 400000 in
theorem t_f_AbstractStringBuilder_newCapacity {sc : (Nat × (Nat → Int32)) × Bool} {d : Nat} (p0 : Nat) (p1 : Int32) (h : zx_H) (r : Int32) (h' : zx_H) (hf : f_AbstractStringBuilder_newCapacity p0 p1 h = some (r, h')) : zx_T sc (d + 2) 138 (0, [(0, .ref p0), (1, .int p1)], []) h (zf_oI r) h' := by
  unfold f_AbstractStringBuilder_newCapacity at hf
  refine zv_p (k := 1) (f' := (1, [(0, .ref p0), (1, .int p1)], [.ref p0])) zq_138 zo_138 (by with_unfolding_all rfl) ?_
  replace hf := zf_be hf
  obtain ⟨v1, hv, hf⟩ := hf
  refine zv_gf zq_138 zo_138 rfl rfl rfl (zf_Ae hv) ?_
  replace hf := zf_be hf
  obtain ⟨v2, hv, hf⟩ := hf
  refine zv_len zq_138 zo_138 rfl hv ?_
  refine zv_p (k := 3) (f' := (8, [(2, .int v2), (0, .ref p0), (1, .int p1)], [.ref p0, .int p1])) zq_138 zo_138 (by with_unfolding_all rfl) ?_
  replace hf := zf_be hf
  obtain ⟨v3, hv, hf⟩ := hf
  refine zv_gf zq_138 zo_138 rfl rfl rfl (zf_Ie hv) ?_
  refine zv_p (k := 8) (f' := (21, [(4, .int ((p1 <<< (v3 &&& 31)) - v2)), (3, .int (p1 <<< (v3 &&& 31))), (2, .int v2), (0, .ref p0), (1, .int p1)], [.int ((p1 <<< (v3 &&& 31)) - v2), .int v2])) zq_138 zo_138 (by with_unfolding_all rfl) ?_
  refine zv_p (k := 3) (f' := (24, [(4, .int ((p1 <<< (v3 &&& 31)) - v2)), (3, .int (p1 <<< (v3 &&& 31))), (2, .int v2), (0, .ref p0), (1, .int p1)], [.ref p0, .int (2 : Int32), .int v2, .int ((p1 <<< (v3 &&& 31)) - v2), .int v2])) zq_138 zo_138 (by with_unfolding_all rfl) ?_
  replace hf := zf_be hf
  obtain ⟨v4, hv, hf⟩ := hf
  refine zv_gf zq_138 zo_138 rfl rfl rfl (zf_Ie hv) ?_
  refine zv_p (k := 2) (f' := (29, [(4, .int ((p1 <<< (v3 &&& 31)) - v2)), (3, .int (p1 <<< (v3 &&& 31))), (2, .int v2), (0, .ref p0), (1, .int p1)], [.int (v2 + ((2 : Int32) <<< (v4 &&& 31))), .int ((p1 <<< (v3 &&& 31)) - v2), .int v2])) zq_138 zo_138 (by with_unfolding_all rfl) ?_
  replace hf := zf_b2e hf
  obtain ⟨v5, h6, hv, hf⟩ := hf
  refine zv_c zq_138 zo_138 rfl rfl rfl rfl rfl rfl (t_f_ArraysSupport_newLength _ _ _ _ _ _ hv) ?_
  refine zv_p (k := 2) (f' := (36, [(5, .int v5), (4, .int ((p1 <<< (v3 &&& 31)) - v2)), (3, .int (p1 <<< (v3 &&& 31))), (2, .int v2), (0, .ref p0), (1, .int p1)], [.int v5])) zq_138 zo_138 (by with_unfolding_all rfl) ?_
  refine zv_ldi zq_138 zo_138 rfl rfl rfl ?_
  replace hf := zf_ite hf
  obtain ⟨hc, hf⟩ | ⟨hc, hf⟩ := hf
  · refine zv_brT (off := 13) (tt := 51) (r := []) zq_138 zo_138 hc rfl rfl rfl ?_
    refine zv_p (k := 2) (f' := (54, [(5, .int v5), (4, .int ((p1 <<< (v3 &&& 31)) - v2)), (3, .int (p1 <<< (v3 &&& 31))), (2, .int v2), (0, .ref p0), (1, .int p1)], [.ref p0, .int v5])) zq_138 zo_138 (by with_unfolding_all rfl) ?_
    replace hf := zf_be hf
    obtain ⟨v7, hv, hf⟩ := hf
    refine zv_gf zq_138 zo_138 rfl rfl rfl (zf_Ie hv) ?_
    refine zv_p (k := 1) (f' := (58, [(5, .int v5), (4, .int ((p1 <<< (v3 &&& 31)) - v2)), (3, .int (p1 <<< (v3 &&& 31))), (2, .int v2), (0, .ref p0), (1, .int p1)], [.int (v5 >>> (v7 &&& 31))])) zq_138 zo_138 (by with_unfolding_all rfl) ?_
    cases hf
    exact zv_rn zq_138 zo_138 rfl rfl
  · refine zv_brF (off := 13) (tt := 51) (r := []) zq_138 zo_138 hc rfl rfl rfl ?_
    cases hf
/-! Arrays.copyOf (arr BI)arr B -/
noncomputable def zI_141 : zd_T := [[(0, .iload_n 1, 1), (1, .aload_n 0, 1), (2, .arraylength, 1), (3, .if_icmp .ne 11, 3), (6, .aload_n 0, 1), (7, .invokevirtual 310, 3), (10, .checkcast 311, 3), (13, .areturn, 1), (14, .iload_n 1, 1), (15, .newarray .byte, 2), (17, .astore_n 2, 1), (18, .aload_n 0, 1), (19, .iconst 0, 1), (20, .aload_n 2, 1), (21, .iconst 0, 1), (22, .aload_n 0, 1), (23, .arraylength, 1), (24, .iload_n 1, 1), (25, .invokestatic 304, 3), (28, .invokestatic 150, 3), (31, .aload_n 2, 1)], [(32, .areturn, 1)]]
theorem zo_141 : zd_of 141 = some zI_141 := rfl
set_option maxRecDepth 100000 in
theorem zq_141 : zt_m[141]? = some (⟨"java/util/Arrays", "copyOf", "([BI)[B"⟩, prog_39_method_121_code, 3, some (.array (.byte)), [], 23, 2, 0, 1, 99999, 0) := rfl
set_option maxHeartbeats 1000000 in
def f_Arrays_copyOf (p0 : Nat) (p1 : Int32) (h : zx_H) : Option (Nat × zx_H) :=
  zf_b (zf_len p0 h) fun v1 =>
  if ¬ p1 = v1 then
    zf_b2 (zf_newa .byte 3 p1 h) fun q2 h3 =>
    zf_b (zf_len p0 h3) fun v4 =>
    zf_b (zf_cpy p0 (0 : Int32) q2 (0 : Int32) (if p1 < v4 then p1 else v4) h3) fun h5 =>
    some (q2, h5)
  else
    zf_b2 (zf_clone p0 h) fun q6 h7 =>
    some (q6, h7)
set_option maxHeartbeats 4000000 in
set_option maxRecDepth 400000 in
theorem t_f_Arrays_copyOf {sc : (Nat × (Nat → Int32)) × Bool} {d : Nat} (p0 : Nat) (p1 : Int32) (h : zx_H) (r : Nat) (h' : zx_H) (hf : f_Arrays_copyOf p0 p1 h = some (r, h')) : zx_T sc d 141 (0, [(0, .ref p0), (1, .int p1)], []) h (zf_oA r) h' := by
  unfold f_Arrays_copyOf at hf
  refine zv_p (k := 2) (f' := (2, [(0, .ref p0), (1, .int p1)], [.ref p0, .int p1])) zq_141 zo_141 (by with_unfolding_all rfl) ?_
  replace hf := zf_be hf
  obtain ⟨v1, hv, hf⟩ := hf
  refine zv_len zq_141 zo_141 rfl hv ?_
  replace hf := zf_ite hf
  obtain ⟨hc, hf⟩ | ⟨hc, hf⟩ := hf
  · refine zv_brT (off := 11) (tt := 14) (r := []) zq_141 zo_141 hc rfl rfl rfl ?_
    refine zv_p (k := 1) (f' := (15, [(0, .ref p0), (1, .int p1)], [.int p1])) zq_141 zo_141 (by with_unfolding_all rfl) ?_
    replace hf := zf_b2e hf
    obtain ⟨q2, h3, hv, hf⟩ := hf
    refine zv_newa zq_141 zo_141 rfl rfl hv ?_
    refine zv_p (k := 6) (f' := (23, [(2, .ref q2), (0, .ref p0), (1, .int p1)], [.ref p0, .int (0 : Int32), .ref q2, .int (0 : Int32), .ref p0])) zq_141 zo_141 (by with_unfolding_all rfl) ?_
    replace hf := zf_be hf
    obtain ⟨v4, hv, hf⟩ := hf
    refine zv_len zq_141 zo_141 rfl hv ?_
    refine zv_p (k := 1) (f' := (25, [(2, .ref q2), (0, .ref p0), (1, .int p1)], [.int p1, .int v4, .int (0 : Int32), .ref q2, .int (0 : Int32), .ref p0])) zq_141 zo_141 (by with_unfolding_all rfl) ?_
    refine zv_mm1 zq_141 zo_141 rfl rfl rfl ?_
    replace hf := zf_be hf
    obtain ⟨h5, hv, hf⟩ := hf
    refine zv_cpy zq_141 zo_141 rfl rfl rfl hv ?_
    refine zv_p (k := 1) (f' := (32, [(2, .ref q2), (0, .ref p0), (1, .int p1)], [.ref q2])) zq_141 zo_141 (by with_unfolding_all rfl) ?_
    cases hf
    exact zv_r zq_141 zo_141 rfl rfl rfl rfl rfl
  · refine zv_brF (off := 11) (tt := 14) (r := []) zq_141 zo_141 hc rfl rfl rfl ?_
    refine zv_p (k := 1) (f' := (7, [(0, .ref p0), (1, .int p1)], [.ref p0])) zq_141 zo_141 (by with_unfolding_all rfl) ?_
    replace hf := zf_b2e hf
    obtain ⟨q6, h7, hv, hf⟩ := hf
    refine zv_clone zq_141 zo_141 rfl rfl rfl rfl rfl hv ?_
    cases hf
    exact zv_r zq_141 zo_141 rfl rfl rfl rfl rfl
/-! AbstractStringBuilder.ensureCapacityInternal (I)V -/
noncomputable def zI_137 : zd_T := [[(0, .aload_n 0, 1), (1, .getfield 15, 3), (4, .arraylength, 1), (5, .aload_n 0, 1), (6, .getfield 22, 3), (9, .ishr, 1), (10, .istore_n 2, 1), (11, .iload_n 1, 1), (12, .iload_n 2, 1), (13, .isub, 1), (14, .ifCond .le 24, 3), (17, .aload_n 0, 1), (18, .aload_n 0, 1), (19, .getfield 15, 3), (22, .aload_n 0, 1), (23, .iload_n 1, 1), (24, .invokevirtual 104, 3), (27, .aload_n 0, 1), (28, .getfield 22, 3), (31, .ishl, 1)], [(32, .invokestatic 108, 3), (35, .putfield 15, 3), (38, .return_, 1)]]
theorem zo_137 : zd_of 137 = some zI_137 := rfl
set_option maxRecDepth 100000 in
theorem zq_137 : zt_m[137]? = some (⟨"java/lang/AbstractStringBuilder", "ensureCapacityInternal", "(I)V"⟩, prog_17_method_9_code, 3, none, [], 20, 1, 0, 0, 99999, 0) := rfl
set_option maxHeartbeats 1000000 in
def f_AbstractStringBuilder_ensureCapacityInternal (p0 : Nat) (p1 : Int32) (h : zx_H) : Option (Unit × zx_H) :=
  zf_b (zf_A 1 0 p0 h) fun v1 =>
  zf_b (zf_len v1 h) fun v2 =>
  zf_b (zf_I 1 1 p0 h) fun v3 =>
  if (p1 - (v2 >>> (v3 &&& 31))) ≤ 0 then
    some ((), h)
  else
    zf_b (zf_A 1 0 p0 h) fun v4 =>
    zf_b (zf_is 1 p0 h) fun _ =>
    zf_b2 (f_AbstractStringBuilder_newCapacity p0 p1 h) fun v5 h6 =>
    zf_b (zf_I 1 1 p0 h6) fun v7 =>
    zf_b2 (f_Arrays_copyOf v4 (v5 <<< (v7 &&& 31)) h6) fun v8 h9 =>
    zf_b (zf_put 1 0 p0 (.ref v8) h9) fun h10 =>
    some ((), h10)
set_option maxHeartbeats 4000000 in
set_option maxRecDepth 400000 in
theorem t_f_AbstractStringBuilder_ensureCapacityInternal {sc : (Nat × (Nat → Int32)) × Bool} {d : Nat} (p0 : Nat) (p1 : Int32) (h : zx_H) (r : Unit) (h' : zx_H) (hf : f_AbstractStringBuilder_ensureCapacityInternal p0 p1 h = some (r, h')) : zx_T sc (d + 3) 137 (0, [(0, .ref p0), (1, .int p1)], []) h (zf_oV r) h' := by
  unfold f_AbstractStringBuilder_ensureCapacityInternal at hf
  refine zv_p (k := 1) (f' := (1, [(0, .ref p0), (1, .int p1)], [.ref p0])) zq_137 zo_137 (by with_unfolding_all rfl) ?_
  replace hf := zf_be hf
  obtain ⟨v1, hv, hf⟩ := hf
  refine zv_gf zq_137 zo_137 rfl rfl rfl (zf_Ae hv) ?_
  replace hf := zf_be hf
  obtain ⟨v2, hv, hf⟩ := hf
  refine zv_len zq_137 zo_137 rfl hv ?_
  refine zv_p (k := 1) (f' := (6, [(0, .ref p0), (1, .int p1)], [.ref p0, .int v2])) zq_137 zo_137 (by with_unfolding_all rfl) ?_
  replace hf := zf_be hf
  obtain ⟨v3, hv, hf⟩ := hf
  refine zv_gf zq_137 zo_137 rfl rfl rfl (zf_Ie hv) ?_
  refine zv_p (k := 5) (f' := (14, [(2, .int (v2 >>> (v3 &&& 31))), (0, .ref p0), (1, .int p1)], [.int (p1 - (v2 >>> (v3 &&& 31)))])) zq_137 zo_137 (by with_unfolding_all rfl) ?_
  replace hf := zf_ite hf
  obtain ⟨hc, hf⟩ | ⟨hc, hf⟩ := hf
  · refine zv_brT (off := 24) (tt := 38) (r := []) zq_137 zo_137 hc rfl rfl rfl ?_
    cases hf
    exact zv_r zq_137 zo_137 rfl rfl rfl rfl rfl
  · refine zv_brF (off := 24) (tt := 38) (r := []) zq_137 zo_137 hc rfl rfl rfl ?_
    refine zv_p (k := 2) (f' := (19, [(2, .int (v2 >>> (v3 &&& 31))), (0, .ref p0), (1, .int p1)], [.ref p0, .ref p0])) zq_137 zo_137 (by with_unfolding_all rfl) ?_
    replace hf := zf_be hf
    obtain ⟨v4, hv, hf⟩ := hf
    refine zv_gf zq_137 zo_137 rfl rfl rfl (zf_Ae hv) ?_
    refine zv_p (k := 2) (f' := (24, [(2, .int (v2 >>> (v3 &&& 31))), (0, .ref p0), (1, .int p1)], [.int p1, .ref p0, .ref v4, .ref p0])) zq_137 zo_137 (by with_unfolding_all rfl) ?_
    replace hf := zf_be hf
    obtain ⟨_, ho, hf⟩ := hf
    replace hf := zf_b2e hf
    obtain ⟨v5, h6, hv, hf⟩ := hf
    refine zv_c zq_137 zo_137 rfl rfl rfl rfl rfl (zv_cp rfl rfl rfl (zf_ise ho) rfl) (t_f_AbstractStringBuilder_newCapacity _ _ _ _ _ hv) ?_
    refine zv_p (k := 1) (f' := (28, [(2, .int (v2 >>> (v3 &&& 31))), (0, .ref p0), (1, .int p1)], [.ref p0, .int v5, .ref v4, .ref p0])) zq_137 zo_137 (by with_unfolding_all rfl) ?_
    replace hf := zf_be hf
    obtain ⟨v7, hv, hf⟩ := hf
    refine zv_gf zq_137 zo_137 rfl rfl rfl (zf_Ie hv) ?_
    refine zv_p (k := 1) (f' := (32, [(2, .int (v2 >>> (v3 &&& 31))), (0, .ref p0), (1, .int p1)], [.int (v5 <<< (v7 &&& 31)), .ref v4, .ref p0])) zq_137 zo_137 (by with_unfolding_all rfl) ?_
    replace hf := zf_b2e hf
    obtain ⟨v8, h9, hv, hf⟩ := hf
    refine zv_c zq_137 zo_137 rfl rfl rfl rfl rfl rfl (t_f_Arrays_copyOf _ _ _ _ _ hv) ?_
    replace hf := zf_be hf
    obtain ⟨h10, hv, hf⟩ := hf
    refine zv_pf zq_137 zo_137 rfl rfl rfl rfl hv ?_
    cases hf
    exact zv_r zq_137 zo_137 rfl rfl rfl rfl rfl
/-! AbstractStringBuilder.isLatin1 ()Z -/
noncomputable def zI_143 : zd_T := [[(0, .getstatic 18, 3), (3, .ifCond .eq 14, 3), (6, .aload_n 0, 1), (7, .getfield 22, 3), (10, .ifCond .ne 7, 3), (13, .iconst 1, 1), (14, .goto 4, 3), (17, .iconst 0, 1), (18, .ireturn, 1)]]
theorem zo_143 : zd_of 143 = some zI_143 := rfl
set_option maxRecDepth 100000 in
theorem zq_143 : zt_m[143]? = some (⟨"java/lang/AbstractStringBuilder", "isLatin1", "()Z"⟩, prog_17_method_68_code, 1, some (.boolean), [], 20, 0, 0, 0, 99999, 0) := rfl
set_option maxHeartbeats 1000000 in
def f_AbstractStringBuilder_isLatin1 (p0 : Nat) (h : zx_H) : Option (Int32 × zx_H) :=
  if (1 : Int32) = 0 then
    some ((0 : Int32), h)
  else
    zf_b (zf_I 1 1 p0 h) fun v1 =>
    if ¬ v1 = 0 then
      some ((0 : Int32), h)
    else
      some ((1 : Int32), h)
set_option maxHeartbeats 4000000 in
set_option maxRecDepth 400000 in
theorem t_f_AbstractStringBuilder_isLatin1 {sc : (Nat × (Nat → Int32)) × Bool} {d : Nat} (p0 : Nat) (h : zx_H) (r : Int32) (h' : zx_H) (hf : f_AbstractStringBuilder_isLatin1 p0 h = some (r, h')) : zx_T sc d 143 (0, [(0, .ref p0)], []) h (zf_oI r) h' := by
  unfold f_AbstractStringBuilder_isLatin1 at hf
  refine zv_gs zq_143 zo_143 rfl rfl rfl ?_
  replace hf := zf_ite hf
  obtain ⟨hc, hf⟩ | ⟨hc, hf⟩ := hf
  · refine zv_brT (off := 14) (tt := 17) (r := []) zq_143 zo_143 hc rfl rfl rfl ?_
    refine zv_p (k := 1) (f' := (18, [(0, .ref p0)], [.int (0 : Int32)])) zq_143 zo_143 (by with_unfolding_all rfl) ?_
    cases hf
    exact zv_rn zq_143 zo_143 rfl rfl
  · refine zv_brF (off := 14) (tt := 17) (r := []) zq_143 zo_143 hc rfl rfl rfl ?_
    refine zv_p (k := 1) (f' := (7, [(0, .ref p0)], [.ref p0])) zq_143 zo_143 (by with_unfolding_all rfl) ?_
    replace hf := zf_be hf
    obtain ⟨v1, hv, hf⟩ := hf
    refine zv_gf zq_143 zo_143 rfl rfl rfl (zf_Ie hv) ?_
    replace hf := zf_ite hf
    obtain ⟨hc, hf⟩ | ⟨hc, hf⟩ := hf
    · refine zv_brT (off := 7) (tt := 17) (r := []) zq_143 zo_143 hc rfl rfl rfl ?_
      refine zv_p (k := 1) (f' := (18, [(0, .ref p0)], [.int (0 : Int32)])) zq_143 zo_143 (by with_unfolding_all rfl) ?_
      cases hf
      exact zv_rn zq_143 zo_143 rfl rfl
    · refine zv_brF (off := 7) (tt := 17) (r := []) zq_143 zo_143 hc rfl rfl rfl ?_
      refine zv_p (k := 2) (f' := (18, [(0, .ref p0)], [.int (1 : Int32)])) zq_143 zo_143 (by with_unfolding_all rfl) ?_
      cases hf
      exact zv_rn zq_143 zo_143 rfl rfl
def fv_0 (p0 : Nat) (h : zx_H) : Option (Int32 × zx_H) := zf_kd p0 h fun ci =>
  if ci = 1 then f_AbstractStringBuilder_isLatin1 p0 h
  else none
theorem tv_0 {sc : (Nat × (Nat → Int32)) × Bool} {d : Nat} {p0 : Nat} {h : zx_H} {r : Int32} {h' : zx_H} (hv : fv_0 p0 h = some (r, h')) : ∃ mj, (∀ (oc i y w : Nat) (st rest : List Value), zx_pool oc i = some (12, 0, y, w) → st.drop 0 = .ref p0 :: rest → (st.take 0).reverse = [] → Nat.ble (zx_cs rest) 8 = true → zx_c oc st h (.invokevirtual i) 3 = some (mj, .ref p0 :: [], rest)) ∧ zx_T sc (d + 0) mj (0, [(0, .ref p0)], []) h (zf_oI r) h' := by
  unfold fv_0 at hv
  obtain ⟨ci, hk, hv⟩ := zf_kde hv
  obtain ⟨rfl, hv⟩ | ⟨-, hv⟩ := zf_ite hv
  · refine ⟨143, fun oc i y w st rest h1 h2 h3 h4 => ?_, t_f_AbstractStringBuilder_isLatin1 _ _ _ _ hv⟩
    have h5 := zv_c12 (mj := 143) (npj := 0) h1 rfl rfl rfl h2 hk (by rw [h4, h3]; rfl)
    rw [h3] at h5
    exact h5
  · cases hv
/-! StringLatin1.canEncode (C)Z -/
noncomputable def zI_144 : zd_T := [[(0, .iload_n 0, 1), (1, .sipush 255, 3), (4, .if_icmp .gt 7, 3), (7, .iconst 1, 1), (8, .goto 4, 3), (11, .iconst 0, 1), (12, .ireturn, 1)]]
theorem zo_144 : zd_of 144 = some zI_144 := rfl
set_option maxRecDepth 100000 in
theorem zq_144 : zt_m[144]? = some (⟨"java/lang/StringLatin1", "canEncode", "(C)Z"⟩, prog_33_method_3_code, 1, some (.boolean), [], 24, 1, 0, 1, 99999, 0) := rfl
set_option maxHeartbeats 1000000 in
def f_StringLatin1_canEncode (p0 : Int32) (h : zx_H) : Option (Int32 × zx_H) :=
  if (255 : Int32) < p0 then
    some ((0 : Int32), h)
  else
    some ((1 : Int32), h)
set_option maxHeartbeats 4000000 in
set_option maxRecDepth 400000 in
theorem t_f_StringLatin1_canEncode {sc : (Nat × (Nat → Int32)) × Bool} {d : Nat} (p0 : Int32) (h : zx_H) (r : Int32) (h' : zx_H) (hf : f_StringLatin1_canEncode p0 h = some (r, h')) : zx_T sc d 144 (0, [(0, .int p0)], []) h (zf_oI r) h' := by
  unfold f_StringLatin1_canEncode at hf
  refine zv_p (k := 2) (f' := (4, [(0, .int p0)], [.int (255 : Int32), .int p0])) zq_144 zo_144 (by with_unfolding_all rfl) ?_
  replace hf := zf_ite hf
  obtain ⟨hc, hf⟩ | ⟨hc, hf⟩ := hf
  · refine zv_brT (off := 7) (tt := 11) (r := []) zq_144 zo_144 hc rfl rfl rfl ?_
    refine zv_p (k := 1) (f' := (12, [(0, .int p0)], [.int (0 : Int32)])) zq_144 zo_144 (by with_unfolding_all rfl) ?_
    cases hf
    exact zv_rn zq_144 zo_144 rfl rfl
  · refine zv_brF (off := 7) (tt := 11) (r := []) zq_144 zo_144 hc rfl rfl rfl ?_
    refine zv_p (k := 2) (f' := (12, [(0, .int p0)], [.int (1 : Int32)])) zq_144 zo_144 (by with_unfolding_all rfl) ?_
    cases hf
    exact zv_rn zq_144 zo_144 rfl rfl
/-! AbstractStringBuilder.inflate ()V -/
noncomputable def zI_145 : zd_T := [[(0, .aload_n 0, 1), (1, .invokevirtual 83, 3), (4, .ifCond .ne 4, 3), (7, .return_, 1), (8, .aload_n 0, 1), (9, .getfield 15, 3), (12, .arraylength, 1), (13, .invokestatic 26, 3), (16, .astore_n 1, 1), (17, .aload_n 0, 1), (18, .getfield 15, 3), (21, .iconst 0, 1), (22, .aload_n 1, 1), (23, .iconst 0, 1), (24, .aload_n 0, 1), (25, .getfield 79, 3), (28, .invokestatic 125, 3), (31, .aload_n 0, 1)], [(32, .aload_n 1, 1), (33, .putfield 15, 3), (36, .aload_n 0, 1), (37, .iconst 1, 1), (38, .putfield 22, 3), (41, .return_, 1)]]
theorem zo_145 : zd_of 145 = some zI_145 := rfl
set_option maxRecDepth 100000 in
theorem zq_145 : zt_m[145]? = some (⟨"java/lang/AbstractStringBuilder", "inflate", "()V"⟩, prog_17_method_11_code, 2, none, [], 20, 0, 0, 0, 99999, 0) := rfl
set_option maxHeartbeats 1000000 in
def f_AbstractStringBuilder_inflate (p0 : Nat) (h : zx_H) : Option (Unit × zx_H) :=
  zf_b2 (fv_0 p0 h) fun v1 h2 =>
  if ¬ v1 = 0 then
    zf_b (zf_A 1 0 p0 h2) fun v3 =>
    zf_b (zf_len v3 h2) fun v4 =>
    none
  else
    some ((), h2)
set_option maxHeartbeats 4000000 in
set_option maxRecDepth 400000 in
theorem t_f_AbstractStringBuilder_inflate {sc : (Nat × (Nat → Int32)) × Bool} {d : Nat} (p0 : Nat) (h : zx_H) (r : Unit) (h' : zx_H) (hf : f_AbstractStringBuilder_inflate p0 h = some (r, h')) : zx_T sc (d + 1) 145 (0, [(0, .ref p0)], []) h (zf_oV r) h' := by
  unfold f_AbstractStringBuilder_inflate at hf
  refine zv_p (k := 1) (f' := (1, [(0, .ref p0)], [.ref p0])) zq_145 zo_145 (by with_unfolding_all rfl) ?_
  replace hf := zf_b2e hf
  obtain ⟨v1, h2, hv, hf⟩ := hf
  obtain ⟨mj, hcl, hrun⟩ := tv_0 hv
  refine zv_c zq_145 zo_145 rfl rfl rfl rfl rfl (hcl _ _ _ _ _ _ rfl rfl rfl rfl) hrun ?_
  replace hf := zf_ite hf
  obtain ⟨hc, hf⟩ | ⟨hc, hf⟩ := hf
  · refine zv_brT (off := 4) (tt := 8) (r := []) zq_145 zo_145 hc rfl rfl rfl ?_
    refine zv_p (k := 1) (f' := (9, [(0, .ref p0)], [.ref p0])) zq_145 zo_145 (by with_unfolding_all rfl) ?_
    replace hf := zf_be hf
    obtain ⟨v3, hv, hf⟩ := hf
    refine zv_gf zq_145 zo_145 rfl rfl rfl (zf_Ae hv) ?_
    replace hf := zf_be hf
    obtain ⟨v4, hv, hf⟩ := hf
    refine zv_len zq_145 zo_145 rfl hv ?_
    cases hf
  · refine zv_brF (off := 4) (tt := 8) (r := []) zq_145 zo_145 hc rfl rfl rfl ?_
    cases hf
    exact zv_r zq_145 zo_145 rfl rfl rfl rfl rfl
/-! AbstractStringBuilder.append (C)Ljava/lang/AbstractStringBuilder; -/
noncomputable def zI_136 : zd_T := [[(0, .aload_n 0, 1), (1, .aload_n 0, 1), (2, .getfield 79, 3), (5, .iconst 1, 1), (6, .iadd, 1), (7, .invokevirtual 100, 3), (10, .aload_n 0, 1), (11, .invokevirtual 83, 3), (14, .ifCond .eq 31, 3), (17, .iload_n 1, 1), (18, .invokestatic 191, 3), (21, .ifCond .eq 24, 3), (24, .aload_n 0, 1), (25, .getfield 15, 3), (28, .aload_n 0, 1), (29, .dup, 1), (30, .getfield 79, 3)], [(33, .dup_x1, 1), (34, .iconst 1, 1), (35, .iadd, 1), (36, .putfield 79, 3), (39, .iload_n 1, 1), (40, .i2b, 1), (41, .bastore, 1), (42, .goto 33, 3), (45, .aload_n 0, 1), (46, .invokevirtual 83, 3), (49, .ifCond .eq 7, 3), (52, .aload_n 0, 1), (53, .invokevirtual 195, 3), (56, .aload_n 0, 1), (57, .getfield 15, 3), (60, .aload_n 0, 1), (61, .dup, 1), (62, .getfield 79, 3)], [(65, .dup_x1, 1), (66, .iconst 1, 1), (67, .iadd, 1), (68, .putfield 79, 3), (71, .iload_n 1, 1), (72, .invokestatic 197, 3), (75, .aload_n 0, 1), (76, .areturn, 1)]]
theorem zo_136 : zd_of 136 = some zI_136 := rfl
set_option maxRecDepth 100000 in
theorem zq_136 : zt_m[136]? = some (⟨"java/lang/AbstractStringBuilder", "append", "(C)Ljava/lang/AbstractStringBuilder;"⟩, prog_17_method_31_code, 2, some (.object "java/lang/AbstractStringBuilder"), [], 20, 1, 0, 0, 99999, 0) := rfl
set_option maxHeartbeats 1000000 in
def f_AbstractStringBuilder_append_56 (p0 : Nat) (p1 : Int32) (h : zx_H) : Option (Nat × zx_H) :=
  zf_b (zf_A 1 0 p0 h) fun v1 =>
  zf_b (zf_I 1 3 p0 h) fun v2 =>
  zf_b (zf_put 1 3 p0 (.int (v2 + (1 : Int32))) h) fun h3 =>
  none
set_option maxHeartbeats 4000000 in
set_option maxRecDepth 400000 in
theorem t_f_AbstractStringBuilder_append_56 {sc : (Nat × (Nat → Int32)) × Bool} {d : Nat} (p0 : Nat) (p1 : Int32) (h : zx_H) (r : Nat) (h' : zx_H) (hf : f_AbstractStringBuilder_append_56 p0 p1 h = some (r, h')) : zx_T sc (d + 4) 136 (56, [(0, .ref p0), (1, .int p1)], []) h (zf_oA r) h' := by
  unfold f_AbstractStringBuilder_append_56 at hf
  refine zv_p (k := 1) (f' := (57, [(0, .ref p0), (1, .int p1)], [.ref p0])) zq_136 zo_136 (by with_unfolding_all rfl) ?_
  replace hf := zf_be hf
  obtain ⟨v1, hv, hf⟩ := hf
  refine zv_gf zq_136 zo_136 rfl rfl rfl (zf_Ae hv) ?_
  refine zv_p (k := 2) (f' := (62, [(0, .ref p0), (1, .int p1)], [.ref p0, .ref p0, .ref v1])) zq_136 zo_136 (by with_unfolding_all rfl) ?_
  replace hf := zf_be hf
  obtain ⟨v2, hv, hf⟩ := hf
  refine zv_gf zq_136 zo_136 rfl rfl rfl (zf_Ie hv) ?_
  refine zv_p (k := 3) (f' := (68, [(0, .ref p0), (1, .int p1)], [.int (v2 + (1 : Int32)), .ref p0, .int v2, .ref v1])) zq_136 zo_136 (by with_unfolding_all rfl) ?_
  replace hf := zf_be hf
  obtain ⟨h3, hv, hf⟩ := hf
  refine zv_pf zq_136 zo_136 rfl rfl rfl rfl hv ?_
  refine zv_p (k := 1) (f' := (72, [(0, .ref p0), (1, .int p1)], [.int p1, .int v2, .ref v1])) zq_136 zo_136 (by with_unfolding_all rfl) ?_
  cases hf
