set_option maxHeartbeats 1000000 in
def f_ArraysSupport_mismatch (p0 : Nat) (p1 : Nat) (p2 : Int32) (h : zx_H) : Option (Int32 × zx_H) :=
  if p2 ≤ (7 : Int32) then
    f_ArraysSupport_mismatch_49 zF p0 p1 p2 (0 : Int32) h
  else
    zf_b (zf_ldB p0 (0 : Int32) h) fun v1 =>
    zf_b (zf_ldB p1 (0 : Int32) h) fun v2 =>
    if v1 = v2 then
      none
    else
      some ((0 : Int32), h)
set_option maxHeartbeats 4000000 in
set_option maxRecDepth 400000 in
theorem t_f_ArraysSupport_mismatch {sc : (Nat × (Nat → Int32)) × Bool} {d : Nat} (p0 : Nat) (p1 : Nat) (p2 : Int32) (h : zx_H) (r : Int32) (h' : zx_H) (hf : f_ArraysSupport_mismatch p0 p1 p2 h = some (r, h')) : zx_T sc d 217 (0, [(0, .ref p0), (1, .ref p1), (2, .int p2)], []) h (zf_oI r) h' := by
  unfold f_ArraysSupport_mismatch at hf
  refine zv_p (k := 4) (f' := (5, [(3, .int (0 : Int32)), (0, .ref p0), (1, .ref p1), (2, .int p2)], [.int (7 : Int32), .int p2])) zq_217 zo_217 (by with_unfolding_all rfl) ?_
  replace hf := zf_ite hf
  obtain ⟨hc, hf⟩ | ⟨hc, hf⟩ := hf
  · refine zv_brT (off := 44) (tt := 49) (r := []) zq_217 zo_217 hc rfl rfl rfl ?_
    refine zv_pick (lv' := [(0, .ref p0), (1, .ref p1), (2, .int p2), (3, .int (0 : Int32))]) [0, 1, 2, 3] rfl rfl ?_
    exact t_f_ArraysSupport_mismatch_49 zF _ _ _ _ _ _ _ hf
  · refine zv_brF (off := 44) (tt := 49) (r := []) zq_217 zo_217 hc rfl rfl rfl ?_
    refine zv_p (k := 2) (f' := (10, [(3, .int (0 : Int32)), (0, .ref p0), (1, .ref p1), (2, .int p2)], [.int (0 : Int32), .ref p0])) zq_217 zo_217 (by with_unfolding_all rfl) ?_
    replace hf := zf_be hf
    obtain ⟨v1, hv, hf⟩ := hf
    refine zv_ldB zq_217 zo_217 rfl hv ?_
    refine zv_p (k := 2) (f' := (13, [(3, .int (0 : Int32)), (0, .ref p0), (1, .ref p1), (2, .int p2)], [.int (0 : Int32), .ref p1, .int v1])) zq_217 zo_217 (by with_unfolding_all rfl) ?_
    replace hf := zf_be hf
    obtain ⟨v2, hv, hf⟩ := hf
    refine zv_ldB zq_217 zo_217 rfl hv ?_
    replace hf := zf_ite hf
    obtain ⟨hc, hf⟩ | ⟨hc, hf⟩ := hf
    · refine zv_brT (off := 5) (tt := 19) (r := []) zq_217 zo_217 hc rfl rfl rfl ?_
      cases hf
    · refine zv_brF (off := 5) (tt := 19) (r := []) zq_217 zo_217 hc rfl rfl rfl ?_
      refine zv_p (k := 1) (f' := (18, [(3, .int (0 : Int32)), (0, .ref p0), (1, .ref p1), (2, .int p2)], [.int (0 : Int32)])) zq_217 zo_217 (by with_unfolding_all rfl) ?_
      cases hf
      exact zv_rn zq_217 zo_217 rfl rfl
/-! StringLatin1.getChar (arr BI)C -/
noncomputable def zI_236 : zd_T := [[(0, .aload_n 0, 1), (1, .iload_n 1, 1), (2, .baload, 1), (3, .sipush 255, 3), (6, .iand, 1), (7, .i2c, 1), (8, .ireturn, 1)]]
theorem zo_236 : zd_of 236 = some zI_236 := rfl
set_option maxRecDepth 100000 in
theorem zq_236 : zt_m[236]? = some (⟨"java/lang/StringLatin1", "getChar", "([BI)C"⟩, prog_33_method_44_code, 2, some (.char), [], 24, 2, 0, 1, 99999, 0) := rfl
set_option maxHeartbeats 1000000 in
def f_StringLatin1_getChar (p0 : Nat) (p1 : Int32) (h : zx_H) : Option (Int32 × zx_H) :=
  zf_b (zf_ldB p0 p1 h) fun v1 =>
  if narrow .char (.int ((((v1 &&& (255 : Int32))).toUInt32 % 65536).toInt32)) = .int ((((v1 &&& (255 : Int32))).toUInt32 % 65536).toInt32) then some ((((v1 &&& (255 : Int32))).toUInt32 % 65536).toInt32, h) else none
set_option maxHeartbeats 4000000 in
set_option maxRecDepth 400000 in
theorem t_f_StringLatin1_getChar {sc : (Nat × (Nat → Int32)) × Bool} {d : Nat} (p0 : Nat) (p1 : Int32) (h : zx_H) (r : Int32) (h' : zx_H) (hf : f_StringLatin1_getChar p0 p1 h = some (r, h')) : zx_T sc d 236 (0, [(0, .ref p0), (1, .int p1)], []) h (zf_oI r) h' := by
  unfold f_StringLatin1_getChar at hf
  refine zv_p (k := 2) (f' := (2, [(0, .ref p0), (1, .int p1)], [.int p1, .ref p0])) zq_236 zo_236 (by with_unfolding_all rfl) ?_
  replace hf := zf_be hf
  obtain ⟨v1, hv, hf⟩ := hf
  refine zv_ldB zq_236 zo_236 rfl hv ?_
  refine zv_p (k := 3) (f' := (8, [(0, .ref p0), (1, .int p1)], [.int (((v1 &&& (255 : Int32))).toUInt32 % 65536).toInt32])) zq_236 zo_236 (by with_unfolding_all rfl) ?_
  replace hf := zf_ite hf
  obtain ⟨hc, hf⟩ | ⟨hc, hf⟩ := hf
  · cases hf; exact zv_rn zq_236 zo_236 rfl hc
  · cases hf
/-! StringLatin1.compareTo (arr Barr BII)I -/
noncomputable def zI_216 : zd_T := [[(0, .iload_n 2, 1), (1, .iload_n 3, 1), (2, .invokestatic 38, 3), (5, .istore 4, 2), (7, .aload_n 0, 1), (8, .aload_n 1, 1), (9, .iload 4, 2), (11, .invokestatic 44, 3), (14, .istore 5, 2), (16, .iload 5, 2), (18, .ifCond .ge 9, 3), (21, .iload_n 2, 1), (22, .iload_n 3, 1), (23, .isub, 1), (24, .goto 16, 3), (27, .aload_n 0, 1), (28, .iload 5, 2), (30, .invokestatic 50, 3)], [(33, .aload_n 1, 1), (34, .iload 5, 2), (36, .invokestatic 50, 3), (39, .isub, 1), (40, .ireturn, 1)]]
theorem zo_216 : zd_of 216 = some zI_216 := rfl
set_option maxRecDepth 100000 in
theorem zq_216 : zt_m[216]? = some (⟨"java/lang/StringLatin1", "compareTo", "([B[BII)I"⟩, prog_33_method_15_code, 6, some (.int), [], 24, 4, 0, 1, 99999, 0) := rfl
set_option maxHeartbeats 1000000 in
def f_StringLatin1_compareToq2 (p0 : Nat) (p1 : Nat) (p2 : Int32) (p3 : Int32) (h : zx_H) : Option (Int32 × zx_H) :=
  zf_b2 (f_ArraysSupport_mismatch p0 p1 (if p3 < p2 then p3 else p2) h) fun v1 h2 =>
  if 0 ≤ v1 then
    zf_b2 (f_StringLatin1_getChar p0 v1 h2) fun v3 h4 =>
    zf_b2 (f_StringLatin1_getChar p1 v1 h4) fun v5 h6 =>
    some ((v3 - v5), h6)
  else
    some ((p2 - p3), h2)
set_option maxHeartbeats 4000000 in
set_option maxRecDepth 400000 in
theorem t_f_StringLatin1_compareToq2 {sc : (Nat × (Nat → Int32)) × Bool} {d : Nat} (p0 : Nat) (p1 : Nat) (p2 : Int32) (p3 : Int32) (h : zx_H) (r : Int32) (h' : zx_H) (hf : f_StringLatin1_compareToq2 p0 p1 p2 p3 h = some (r, h')) : zx_T sc (d + 1) 216 (0, [(0, .ref p0), (1, .ref p1), (2, .int p2), (3, .int p3)], []) h (zf_oI r) h' := by
  unfold f_StringLatin1_compareToq2 at hf
  refine zv_p (k := 2) (f' := (2, [(0, .ref p0), (1, .ref p1), (2, .int p2), (3, .int p3)], [.int p3, .int p2])) zq_216 zo_216 (by with_unfolding_all rfl) ?_
  refine zv_mm1 zq_216 zo_216 rfl rfl rfl ?_
  refine zv_p (k := 4) (f' := (11, [(4, .int (if p3 < p2 then p3 else p2)), (0, .ref p0), (1, .ref p1), (2, .int p2), (3, .int p3)], [.int (if p3 < p2 then p3 else p2), .ref p1, .ref p0])) zq_216 zo_216 (by with_unfolding_all rfl) ?_
  replace hf := zf_b2e hf
  obtain ⟨v1, h2, hv, hf⟩ := hf
  refine zv_c zq_216 zo_216 rfl rfl rfl rfl rfl rfl (t_f_ArraysSupport_mismatch _ _ _ _ _ _ hv) ?_
  refine zv_p (k := 2) (f' := (18, [(5, .int v1), (4, .int (if p3 < p2 then p3 else p2)), (0, .ref p0), (1, .ref p1), (2, .int p2), (3, .int p3)], [.int v1])) zq_216 zo_216 (by with_unfolding_all rfl) ?_
  replace hf := zf_ite hf
  obtain ⟨hc, hf⟩ | ⟨hc, hf⟩ := hf
  · refine zv_brT (off := 9) (tt := 27) (r := []) zq_216 zo_216 hc rfl rfl rfl ?_
    refine zv_p (k := 2) (f' := (30, [(5, .int v1), (4, .int (if p3 < p2 then p3 else p2)), (0, .ref p0), (1, .ref p1), (2, .int p2), (3, .int p3)], [.int v1, .ref p0])) zq_216 zo_216 (by with_unfolding_all rfl) ?_
    replace hf := zf_b2e hf
    obtain ⟨v3, h4, hv, hf⟩ := hf
    refine zv_c zq_216 zo_216 rfl rfl rfl rfl rfl rfl (t_f_StringLatin1_getChar _ _ _ _ _ hv) ?_
    refine zv_p (k := 2) (f' := (36, [(5, .int v1), (4, .int (if p3 < p2 then p3 else p2)), (0, .ref p0), (1, .ref p1), (2, .int p2), (3, .int p3)], [.int v1, .ref p1, .int v3])) zq_216 zo_216 (by with_unfolding_all rfl) ?_
    replace hf := zf_b2e hf
    obtain ⟨v5, h6, hv, hf⟩ := hf
    refine zv_c zq_216 zo_216 rfl rfl rfl rfl rfl rfl (t_f_StringLatin1_getChar _ _ _ _ _ hv) ?_
    refine zv_p (k := 1) (f' := (40, [(5, .int v1), (4, .int (if p3 < p2 then p3 else p2)), (0, .ref p0), (1, .ref p1), (2, .int p2), (3, .int p3)], [.int (v3 - v5)])) zq_216 zo_216 (by with_unfolding_all rfl) ?_
    cases hf
    exact zv_rn zq_216 zo_216 rfl rfl
  · refine zv_brF (off := 9) (tt := 27) (r := []) zq_216 zo_216 hc rfl rfl rfl ?_
    refine zv_p (k := 4) (f' := (40, [(5, .int v1), (4, .int (if p3 < p2 then p3 else p2)), (0, .ref p0), (1, .ref p1), (2, .int p2), (3, .int p3)], [.int (p2 - p3)])) zq_216 zo_216 (by with_unfolding_all rfl) ?_
    cases hf
    exact zv_rn zq_216 zo_216 rfl rfl
/-! StringLatin1.compareTo (arr Barr B)I -/
noncomputable def zI_215 : zd_T := [[(0, .aload_n 0, 1), (1, .arraylength, 1), (2, .istore_n 2, 1), (3, .aload_n 1, 1), (4, .arraylength, 1), (5, .istore_n 3, 1), (6, .aload_n 0, 1), (7, .aload_n 1, 1), (8, .iload_n 2, 1), (9, .iload_n 3, 1), (10, .invokestatic 34, 3), (13, .ireturn, 1)]]
theorem zo_215 : zd_of 215 = some zI_215 := rfl
set_option maxRecDepth 100000 in
theorem zq_215 : zt_m[215]? = some (⟨"java/lang/StringLatin1", "compareTo", "([B[B)I"⟩, prog_33_method_14_code, 4, some (.int), [], 24, 2, 0, 1, 99999, 0) := rfl
set_option maxHeartbeats 1000000 in
def f_StringLatin1_compareTo (p0 : Nat) (p1 : Nat) (h : zx_H) : Option (Int32 × zx_H) :=
  zf_b (zf_len p0 h) fun v1 =>
  zf_b (zf_len p1 h) fun v2 =>
  zf_b2 (f_StringLatin1_compareToq2 p0 p1 v1 v2 h) fun v3 h4 =>
  some (v3, h4)
set_option maxHeartbeats 4000000 in
set_option maxRecDepth 400000 in
theorem t_f_StringLatin1_compareTo {sc : (Nat × (Nat → Int32)) × Bool} {d : Nat} (p0 : Nat) (p1 : Nat) (h : zx_H) (r : Int32) (h' : zx_H) (hf : f_StringLatin1_compareTo p0 p1 h = some (r, h')) : zx_T sc (d + 2) 215 (0, [(0, .ref p0), (1, .ref p1)], []) h (zf_oI r) h' := by
  unfold f_StringLatin1_compareTo at hf
  refine zv_p (k := 1) (f' := (1, [(0, .ref p0), (1, .ref p1)], [.ref p0])) zq_215 zo_215 (by with_unfolding_all rfl) ?_
  replace hf := zf_be hf
  obtain ⟨v1, hv, hf⟩ := hf
  refine zv_len zq_215 zo_215 rfl hv ?_
  refine zv_p (k := 2) (f' := (4, [(2, .int v1), (0, .ref p0), (1, .ref p1)], [.ref p1])) zq_215 zo_215 (by with_unfolding_all rfl) ?_
  replace hf := zf_be hf
  obtain ⟨v2, hv, hf⟩ := hf
  refine zv_len zq_215 zo_215 rfl hv ?_
  refine zv_p (k := 5) (f' := (10, [(3, .int v2), (2, .int v1), (0, .ref p0), (1, .ref p1)], [.int v2, .int v1, .ref p1, .ref p0])) zq_215 zo_215 (by with_unfolding_all rfl) ?_
  replace hf := zf_b2e hf
  obtain ⟨v3, h4, hv, hf⟩ := hf
  refine zv_c zq_215 zo_215 rfl rfl rfl rfl rfl rfl (t_f_StringLatin1_compareToq2 _ _ _ _ _ _ _ hv) ?_
  cases hf
  exact zv_rn zq_215 zo_215 rfl rfl
/-! StringLatin1.length (arr B)I -/
noncomputable def zI_240 : zd_T := [[(0, .aload_n 0, 1), (1, .arraylength, 1), (2, .ireturn, 1)]]
theorem zo_240 : zd_of 240 = some zI_240 := rfl
set_option maxRecDepth 100000 in
theorem zq_240 : zt_m[240]? = some (⟨"java/lang/StringLatin1", "length", "([B)I"⟩, prog_33_method_5_code, 1, some (.int), [], 24, 1, 0, 1, 99999, 0) := rfl
set_option maxHeartbeats 1000000 in
def f_StringLatin1_length (p0 : Nat) (h : zx_H) : Option (Int32 × zx_H) :=
  zf_b (zf_len p0 h) fun v1 =>
  some (v1, h)
set_option maxHeartbeats 4000000 in
set_option maxRecDepth 400000 in
theorem t_f_StringLatin1_length {sc : (Nat × (Nat → Int32)) × Bool} {d : Nat} (p0 : Nat) (h : zx_H) (r : Int32) (h' : zx_H) (hf : f_StringLatin1_length p0 h = some (r, h')) : zx_T sc d 240 (0, [(0, .ref p0)], []) h (zf_oI r) h' := by
  unfold f_StringLatin1_length at hf
  refine zv_p (k := 1) (f' := (1, [(0, .ref p0)], [.ref p0])) zq_240 zo_240 (by with_unfolding_all rfl) ?_
  replace hf := zf_be hf
  obtain ⟨v1, hv, hf⟩ := hf
  refine zv_len zq_240 zo_240 rfl hv ?_
  cases hf
  exact zv_rn zq_240 zo_240 rfl rfl
/-! StringLatin1.compareToUTF16 (arr Barr B)I -/
noncomputable def zI_239 : zd_T := [[(0, .aload_n 0, 1), (1, .invokestatic 54, 3), (4, .istore_n 2, 1), (5, .aload_n 1, 1), (6, .invokestatic 58, 3), (9, .istore_n 3, 1), (10, .aload_n 0, 1), (11, .aload_n 1, 1), (12, .iload_n 2, 1), (13, .iload_n 3, 1), (14, .invokestatic 59, 3), (17, .ireturn, 1)]]
theorem zo_239 : zd_of 239 = some zI_239 := rfl
set_option maxRecDepth 100000 in
theorem zq_239 : zt_m[239]? = some (⟨"java/lang/StringLatin1", "compareToUTF16", "([B[B)I"⟩, prog_33_method_16_code, 4, some (.int), [], 24, 2, 0, 1, 99999, 0) := rfl
set_option maxHeartbeats 1000000 in
def f_StringLatin1_compareToUTF16 (p0 : Nat) (p1 : Nat) (h : zx_H) : Option (Unit × zx_H) :=
  zf_b2 (f_StringLatin1_length p0 h) fun v1 h2 =>
  none
set_option maxHeartbeats 4000000 in
set_option maxRecDepth 400000 in
theorem t_f_StringLatin1_compareToUTF16 {sc : (Nat × (Nat → Int32)) × Bool} {d : Nat} (p0 : Nat) (p1 : Nat) (h : zx_H) (r : Unit) (h' : zx_H) (hf : f_StringLatin1_compareToUTF16 p0 p1 h = some (r, h')) : zx_T sc (d + 1) 239 (0, [(0, .ref p0), (1, .ref p1)], []) h (zf_oV r) h' := by
  unfold f_StringLatin1_compareToUTF16 at hf
  refine zv_p (k := 1) (f' := (1, [(0, .ref p0), (1, .ref p1)], [.ref p0])) zq_239 zo_239 (by with_unfolding_all rfl) ?_
  replace hf := zf_b2e hf
  obtain ⟨v1, h2, hv, hf⟩ := hf
  refine zv_c zq_239 zo_239 rfl rfl rfl rfl rfl rfl (t_f_StringLatin1_length _ _ _ _ hv) ?_
  refine zv_p (k := 2) (f' := (6, [(2, .int v1), (0, .ref p0), (1, .ref p1)], [.ref p1])) zq_239 zo_239 (by with_unfolding_all rfl) ?_
  cases hf
/-! String.compareTo (Ljava/lang/String;)I -/
noncomputable def zI_214 : zd_T := [[(0, .aload_n 0, 1), (1, .getfield 9, 3), (4, .astore_n 2, 1), (5, .aload_n 1, 1), (6, .getfield 9, 3), (9, .astore_n 3, 1), (10, .aload_n 0, 1), (11, .invokevirtual 335, 3), (14, .istore 4, 2), (16, .iload 4, 2), (18, .aload_n 1, 1), (19, .invokevirtual 335, 3), (22, .if_icmp .ne 22, 3), (25, .iload 4, 2), (27, .ifCond .ne 11, 3), (30, .aload_n 2, 1), (31, .aload_n 3, 1)], [(32, .invokestatic 586, 3), (35, .goto 8, 3), (38, .aload_n 2, 1), (39, .aload_n 3, 1), (40, .invokestatic 590, 3), (43, .ireturn, 1), (44, .iload 4, 2), (46, .ifCond .ne 11, 3), (49, .aload_n 2, 1), (50, .aload_n 3, 1), (51, .invokestatic 591, 3), (54, .goto 8, 3), (57, .aload_n 2, 1), (58, .aload_n 3, 1), (59, .invokestatic 594, 3), (62, .ireturn, 1)]]
theorem zo_214 : zd_of 214 = some zI_214 := rfl
set_option maxRecDepth 100000 in
theorem zq_214 : zt_m[214]? = some (⟨"java/lang/String", "compareTo", "(Ljava/lang/String;)I"⟩, prog_31_method_71_code, 5, some (.int), [], 0, 1, 0, 0, 0, 0) := rfl
set_option maxHeartbeats 1000000 in
def f_String_compareTo (p0 : Nat) (p1 : Nat) (h : zx_H) : Option (Int32 × zx_H) :=
  zf_b (zfx_A 0 0 p0 h) fun v1 =>
  zf_b (zfx_A 0 0 p1 h) fun v2 =>
  zf_b (zf_is 0 p0 h) fun _ =>
  zf_b2 (f_String_coder p0 h) fun v3 h4 =>
  zf_b (zf_is 0 p1 h4) fun _ =>
  zf_b2 (f_String_coder p1 h4) fun v5 h6 =>
  if ¬ v3 = v5 then
    if ¬ v3 = 0 then
      none
    else
      none
  else
    if ¬ v3 = 0 then
      none
    else
      zf_b2 (f_StringLatin1_compareTo v1 v2 h6) fun v7 h8 =>
      some (v7, h8)
set_option maxHeartbeats 4000000 in
set_option maxRecDepth 400000 in
theorem t_f_String_compareTo {sc : (Nat × (Nat → Int32)) × Bool} {d : Nat} (p0 : Nat) (p1 : Nat) (h : zx_H) (r : Int32) (h' : zx_H) (hf : f_String_compareTo p0 p1 h = some (r, h')) : zx_T sc (d + 3) 214 (0, [(0, .ref p0), (1, .ref p1)], []) h (zf_oI r) h' := by
  unfold f_String_compareTo at hf
  refine zv_p (k := 1) (f' := (1, [(0, .ref p0), (1, .ref p1)], [.ref p0])) zq_214 zo_214 (by with_unfolding_all rfl) ?_
  replace hf := zf_be hf
  obtain ⟨v1, hv, hf⟩ := hf
  refine zv_gfx zq_214 zo_214 rfl rfl (zfx_Ae hv) ?_
  refine zv_p (k := 2) (f' := (6, [(2, .ref v1), (0, .ref p0), (1, .ref p1)], [.ref p1])) zq_214 zo_214 (by with_unfolding_all rfl) ?_
  replace hf := zf_be hf
  obtain ⟨v2, hv, hf⟩ := hf
  refine zv_gfx zq_214 zo_214 rfl rfl (zfx_Ae hv) ?_
  refine zv_p (k := 2) (f' := (11, [(3, .ref v2), (2, .ref v1), (0, .ref p0), (1, .ref p1)], [.ref p0])) zq_214 zo_214 (by with_unfolding_all rfl) ?_
  replace hf := zf_be hf
  obtain ⟨_, ho, hf⟩ := hf
  replace hf := zf_b2e hf
  obtain ⟨v3, h4, hv, hf⟩ := hf
  refine zv_c zq_214 zo_214 rfl rfl rfl rfl rfl (zv_cv rfl rfl rfl (zf_ise ho) rfl) (t_f_String_coder _ _ _ _ hv) ?_
  refine zv_p (k := 3) (f' := (19, [(4, .int v3), (3, .ref v2), (2, .ref v1), (0, .ref p0), (1, .ref p1)], [.ref p1, .int v3])) zq_214 zo_214 (by with_unfolding_all rfl) ?_
  replace hf := zf_be hf
  obtain ⟨_, ho, hf⟩ := hf
  replace hf := zf_b2e hf
  obtain ⟨v5, h6, hv, hf⟩ := hf
  refine zv_c zq_214 zo_214 rfl rfl rfl rfl rfl (zv_cv rfl rfl rfl (zf_ise ho) rfl) (t_f_String_coder _ _ _ _ hv) ?_
  replace hf := zf_ite hf
  obtain ⟨hc, hf⟩ | ⟨hc, hf⟩ := hf
  · refine zv_brT (off := 22) (tt := 44) (r := []) zq_214 zo_214 hc rfl rfl rfl ?_
    refine zv_p (k := 1) (f' := (46, [(4, .int v3), (3, .ref v2), (2, .ref v1), (0, .ref p0), (1, .ref p1)], [.int v3])) zq_214 zo_214 (by with_unfolding_all rfl) ?_
    replace hf := zf_ite hf
    obtain ⟨hc, hf⟩ | ⟨hc, hf⟩ := hf
    · refine zv_brT (off := 11) (tt := 57) (r := []) zq_214 zo_214 hc rfl rfl rfl ?_
      refine zv_p (k := 2) (f' := (59, [(4, .int v3), (3, .ref v2), (2, .ref v1), (0, .ref p0), (1, .ref p1)], [.ref v2, .ref v1])) zq_214 zo_214 (by with_unfolding_all rfl) ?_
      cases hf
    · refine zv_brF (off := 11) (tt := 57) (r := []) zq_214 zo_214 hc rfl rfl rfl ?_
      refine zv_p (k := 2) (f' := (51, [(4, .int v3), (3, .ref v2), (2, .ref v1), (0, .ref p0), (1, .ref p1)], [.ref v2, .ref v1])) zq_214 zo_214 (by with_unfolding_all rfl) ?_
      cases hf
  · refine zv_brF (off := 22) (tt := 44) (r := []) zq_214 zo_214 hc rfl rfl rfl ?_
    refine zv_p (k := 1) (f' := (27, [(4, .int v3), (3, .ref v2), (2, .ref v1), (0, .ref p0), (1, .ref p1)], [.int v3])) zq_214 zo_214 (by with_unfolding_all rfl) ?_
    replace hf := zf_ite hf
    obtain ⟨hc, hf⟩ | ⟨hc, hf⟩ := hf
    · refine zv_brT (off := 11) (tt := 38) (r := []) zq_214 zo_214 hc rfl rfl rfl ?_
      refine zv_p (k := 2) (f' := (40, [(4, .int v3), (3, .ref v2), (2, .ref v1), (0, .ref p0), (1, .ref p1)], [.ref v2, .ref v1])) zq_214 zo_214 (by with_unfolding_all rfl) ?_
      cases hf
    · refine zv_brF (off := 11) (tt := 38) (r := []) zq_214 zo_214 hc rfl rfl rfl ?_
      refine zv_p (k := 2) (f' := (32, [(4, .int v3), (3, .ref v2), (2, .ref v1), (0, .ref p0), (1, .ref p1)], [.ref v2, .ref v1])) zq_214 zo_214 (by with_unfolding_all rfl) ?_
      replace hf := zf_b2e hf
      obtain ⟨v7, h8, hv, hf⟩ := hf
      refine zv_c zq_214 zo_214 rfl rfl rfl rfl rfl rfl (t_f_StringLatin1_compareTo _ _ _ _ _ hv) ?_
      refine zv_p (k := 1) (f' := (43, [(4, .int v3), (3, .ref v2), (2, .ref v1), (0, .ref p0), (1, .ref p1)], [.int v7])) zq_214 zo_214 (by with_unfolding_all rfl) ?_
      cases hf
      exact zv_rn zq_214 zo_214 rfl rfl
/-! Integer.signum (I)I -/
noncomputable def zI_243 : zd_T := [[(0, .iload_n 0, 1), (1, .bipush 31, 2), (3, .ishr, 1), (4, .iload_n 0, 1), (5, .ineg, 1), (6, .bipush 31, 2), (8, .iushr, 1), (9, .ior, 1), (10, .ireturn, 1)]]
theorem zo_243 : zd_of 243 = some zI_243 := rfl
set_option maxRecDepth 100000 in
theorem zq_243 : zt_m[243]? = some (⟨"java/lang/Integer", "signum", "(I)I"⟩, prog_26_method_56_code, 1, some (.int), [], 26, 1, 0, 1, 99999, 0) := rfl
set_option maxHeartbeats 1000000 in
def f_Integer_signum (p0 : Int32) (h : zx_H) : Option (Int32 × zx_H) :=
  some (((p0 >>> ((31 : Int32) &&& 31)) ||| (((-p0)).toUInt32 >>> (((31 : Int32)).toUInt32 &&& Int32.toUInt32 31)).toInt32), h)
set_option maxHeartbeats 4000000 in
set_option maxRecDepth 400000 in
theorem t_f_Integer_signum {sc : (Nat × (Nat → Int32)) × Bool} {d : Nat} (p0 : Int32) (h : zx_H) (r : Int32) (h' : zx_H) (hf : f_Integer_signum p0 h = some (r, h')) : zx_T sc d 243 (0, [(0, .int p0)], []) h (zf_oI r) h' := by
  unfold f_Integer_signum at hf
  refine zv_p (k := 8) (f' := (10, [(0, .int p0)], [.int ((p0 >>> ((31 : Int32) &&& 31)) ||| (((-p0)).toUInt32 >>> (((31 : Int32)).toUInt32 &&& Int32.toUInt32 31)).toInt32)])) zq_243 zo_243 (by with_unfolding_all rfl) ?_
  cases hf
  exact zv_rn zq_243 zo_243 rfl rfl
/-! Long.compare (JJ)I -/
noncomputable def zI_244 : zd_T := [[(0, .lload_n 0, 1), (1, .lload_n 2, 1), (2, .lcmp, 1), (3, .ifCond .ge 7, 3), (6, .iconst (-1), 1), (7, .goto 14, 3), (10, .lload_n 0, 1), (11, .lload_n 2, 1), (12, .lcmp, 1), (13, .ifCond .ne 7, 3), (16, .iconst 0, 1), (17, .goto 4, 3), (20, .iconst 1, 1), (21, .ireturn, 1)]]
theorem zo_244 : zd_of 244 = some zI_244 := rfl
set_option maxRecDepth 100000 in
theorem zq_244 : zt_m[244]? = some (⟨"java/lang/Long", "compare", "(JJ)I"⟩, prog_27_method_42_code, 4, some (.int), [], 18, 2, 0, 1, 99999, 0) := rfl
set_option maxHeartbeats 1000000 in
def f_Long_compare (p0 : Int64) (p1 : Int64) (h : zx_H) : Option (Int32 × zx_H) :=
  if p1 ≤ p0 then
    if ¬ p0 = p1 then
      some ((1 : Int32), h)
    else
      some ((0 : Int32), h)
  else
    some ((-1 : Int32), h)
set_option maxHeartbeats 4000000 in
set_option maxRecDepth 400000 in
theorem t_f_Long_compare {sc : (Nat × (Nat → Int32)) × Bool} {d : Nat} (p0 : Int64) (p1 : Int64) (h : zx_H) (r : Int32) (h' : zx_H) (hf : f_Long_compare p0 p1 h = some (r, h')) : zx_T sc d 244 (0, [(0, .long p0), (2, .long p1)], []) h (zf_oI r) h' := by
  unfold f_Long_compare at hf
  refine zv_p (k := 3) (f' := (3, [(0, .long p0), (2, .long p1)], [.int (lg_cmp p0 p1)])) zq_244 zo_244 (by with_unfolding_all rfl) ?_
  replace hf := zf_ite hf
  obtain ⟨hc, hf⟩ | ⟨hc, hf⟩ := hf
  · refine zv_brT (off := 7) (tt := 10) (r := []) zq_244 zo_244 (zl_ge.mpr hc) rfl rfl rfl ?_
    refine zv_p (k := 3) (f' := (13, [(0, .long p0), (2, .long p1)], [.int (lg_cmp p0 p1)])) zq_244 zo_244 (by with_unfolding_all rfl) ?_
    replace hf := zf_ite hf
    obtain ⟨hc, hf⟩ | ⟨hc, hf⟩ := hf
    · refine zv_brT (off := 7) (tt := 20) (r := []) zq_244 zo_244 (zl_ne.mpr hc) rfl rfl rfl ?_
      refine zv_p (k := 1) (f' := (21, [(0, .long p0), (2, .long p1)], [.int (1 : Int32)])) zq_244 zo_244 (by with_unfolding_all rfl) ?_
      cases hf
      exact zv_rn zq_244 zo_244 rfl rfl
    · refine zv_brF (off := 7) (tt := 20) (r := []) zq_244 zo_244 (mt zl_ne.mp hc) rfl rfl rfl ?_
      refine zv_p (k := 2) (f' := (21, [(0, .long p0), (2, .long p1)], [.int (0 : Int32)])) zq_244 zo_244 (by with_unfolding_all rfl) ?_
      cases hf
      exact zv_rn zq_244 zo_244 rfl rfl
  · refine zv_brF (off := 7) (tt := 10) (r := []) zq_244 zo_244 (mt zl_ge.mp hc) rfl rfl rfl ?_
    refine zv_p (k := 2) (f' := (21, [(0, .long p0), (2, .long p1)], [.int (-1 : Int32)])) zq_244 zo_244 (by with_unfolding_all rfl) ?_
    cases hf
    exact zv_rn zq_244 zo_244 rfl rfl
/-! ColumnVaultLaw.than (IJJ)I -/
noncomputable def zI_208 : zd_T := [[(0, .iload_n 0, 1), (1, .iconst 1, 1), (2, .if_icmp .ne 20, 3), (5, .lload_n 1, 1), (6, .invokestatic 56, 3), (9, .lload_n 3, 1), (10, .invokestatic 56, 3), (13, .invokevirtual 60, 3), (16, .invokestatic 64, 3), (19, .goto 8, 3), (22, .lload_n 1, 1), (23, .lload_n 3, 1), (24, .invokestatic 70, 3), (27, .ireturn, 1)]]
theorem zo_208 : zd_of 208 = some zI_208 := rfl
set_option maxRecDepth 100000 in
theorem zq_208 : zt_m[208]? = some (⟨"ColumnVaultLaw", "than", "(IJJ)I"⟩, method_8_code, 5, some (.int), [], 17, 3, 0, 1, 99999, 0) := rfl
set_option maxHeartbeats 1000000 in
def f_ColumnVaultLaw_than (p0 : Int32) (p1 : Int64) (p2 : Int64) (h : zx_H) : Option (Int32 × zx_H) :=
  if ¬ p0 = (1 : Int32) then
    zf_b2 (f_Long_compare p1 p2 h) fun v1 h2 =>
    some (v1, h2)
  else
    zf_b2 (f_ColumnVaultLaw_word p1 h) fun v3 h4 =>
    zf_b2 (f_ColumnVaultLaw_word p2 h4) fun v5 h6 =>
    zf_b (zf_is 0 v3 h6) fun _ =>
    zf_b2 (f_String_compareTo v3 v5 h6) fun v7 h8 =>
    zf_b2 (f_Integer_signum v7 h8) fun v9 h10 =>
    some (v9, h10)
set_option maxHeartbeats 4000000 in
set_option maxRecDepth 400000 in
theorem t_f_ColumnVaultLaw_than {sc : (Nat × (Nat → Int32)) × Bool} {d : Nat} (p0 : Int32) (p1 : Int64) (p2 : Int64) (h : zx_H) (r : Int32) (h' : zx_H) (hf : f_ColumnVaultLaw_than p0 p1 p2 h = some (r, h')) : zx_T sc (d + 7) 208 (0, [(0, .int p0), (1, .long p1), (3, .long p2)], []) h (zf_oI r) h' := by
  unfold f_ColumnVaultLaw_than at hf
  refine zv_p (k := 2) (f' := (2, [(0, .int p0), (1, .long p1), (3, .long p2)], [.int (1 : Int32), .int p0])) zq_208 zo_208 (by with_unfolding_all rfl) ?_
  replace hf := zf_ite hf
  obtain ⟨hc, hf⟩ | ⟨hc, hf⟩ := hf
  · refine zv_brT (off := 20) (tt := 22) (r := []) zq_208 zo_208 hc rfl rfl rfl ?_
    refine zv_p (k := 2) (f' := (24, [(0, .int p0), (1, .long p1), (3, .long p2)], [.long p2, .long p1])) zq_208 zo_208 (by with_unfolding_all rfl) ?_
    replace hf := zf_b2e hf
    obtain ⟨v1, h2, hv, hf⟩ := hf
    refine zv_c zq_208 zo_208 rfl rfl rfl rfl rfl rfl (t_f_Long_compare _ _ _ _ _ hv) ?_
    cases hf
    exact zv_rn zq_208 zo_208 rfl rfl
  · refine zv_brF (off := 20) (tt := 22) (r := []) zq_208 zo_208 hc rfl rfl rfl ?_
    refine zv_p (k := 1) (f' := (6, [(0, .int p0), (1, .long p1), (3, .long p2)], [.long p1])) zq_208 zo_208 (by with_unfolding_all rfl) ?_
    replace hf := zf_b2e hf
    obtain ⟨v3, h4, hv, hf⟩ := hf
    refine zv_c zq_208 zo_208 rfl rfl rfl rfl rfl rfl (t_f_ColumnVaultLaw_word _ _ _ _ hv) ?_
    refine zv_p (k := 1) (f' := (10, [(0, .int p0), (1, .long p1), (3, .long p2)], [.long p2, .ref v3])) zq_208 zo_208 (by with_unfolding_all rfl) ?_
    replace hf := zf_b2e hf
    obtain ⟨v5, h6, hv, hf⟩ := hf
    refine zv_c zq_208 zo_208 rfl rfl rfl rfl rfl rfl (t_f_ColumnVaultLaw_word _ _ _ _ hv) ?_
    replace hf := zf_be hf
    obtain ⟨_, ho, hf⟩ := hf
    replace hf := zf_b2e hf
    obtain ⟨v7, h8, hv, hf⟩ := hf
    refine zv_c zq_208 zo_208 rfl rfl rfl rfl rfl (zv_cv rfl rfl rfl (zf_ise ho) rfl) (t_f_String_compareTo _ _ _ _ _ hv) ?_
    replace hf := zf_b2e hf
    obtain ⟨v9, h10, hv, hf⟩ := hf
    refine zv_c zq_208 zo_208 rfl rfl rfl rfl rfl rfl (t_f_Integer_signum _ _ _ _ hv) ?_
    refine zv_p (k := 1) (f' := (27, [(0, .int p0), (1, .long p1), (3, .long p2)], [.int v9])) zq_208 zo_208 (by with_unfolding_all rfl) ?_
    cases hf
    exact zv_rn zq_208 zo_208 rfl rfl
/-! ColumnVault$Checks.standsAhead (LColumnVault$Sheet;IIII)Z -/
noncomputable def zI_248 : zd_T := [[(0, .aload_n 1, 1), (1, .iload_n 3, 1), (2, .iload 4, 2), (4, .invokevirtual 71, 3), (7, .lstore 6, 2), (9, .aload_n 1, 1), (10, .iload_n 3, 1), (11, .iload 5, 2), (13, .invokevirtual 71, 3), (16, .lstore 8, 2), (18, .lload 6, 2), (20, .lload 8, 2), (22, .lcmp, 1), (23, .ifCond .ne 21, 3), (26, .aload_n 1, 1), (27, .iload_n 2, 1), (28, .iload 4, 2), (30, .invokevirtual 71, 3)], [(33, .lstore 6, 2), (35, .aload_n 1, 1), (36, .iload_n 2, 1), (37, .iload 5, 2), (39, .invokevirtual 71, 3), (42, .lstore 8, 2), (44, .lload 6, 2), (46, .lload 8, 2), (48, .lcmp, 1), (49, .ifCond .ne 24, 3), (52, .aload_n 1, 1), (53, .iload 4, 2), (55, .invokevirtual 75, 3), (58, .aload_n 1, 1), (59, .iload 5, 2), (61, .invokevirtual 75, 3)], [(64, .if_icmp .ge 7, 3), (67, .iconst 1, 1), (68, .goto 4, 3), (71, .iconst 0, 1), (72, .ireturn, 1), (73, .lload 6, 2), (75, .lload 8, 2), (77, .iconst 0, 1), (78, .iconst 0, 1), (79, .invokestatic 78, 3), (82, .ireturn, 1)]]
theorem zo_248 : zd_of 248 = some zI_248 := rfl
set_option maxRecDepth 100000 in
theorem zq_248 : zt_m[248]? = some (⟨"ColumnVault$Checks", "standsAhead", "(LColumnVault$Sheet;IIII)Z"⟩, prog_2_method_4_code, 10, some (.boolean), [], 2, 5, 0, 0, 0, 0) := rfl
set_option maxHeartbeats 1000000 in
def f_Checks_standsAhead_44 (p0 : Nat) (p1 : Int32) (p2 : Int32) (p3 : Int64) (p4 : Int64) (h : zx_H) : Option (Int32 × zx_H) :=
  if ¬ p3 = p4 then
    zf_b2 (f_ColumnVault_isAhead p3 p4 (0 : Int32) (0 : Int32) h) fun v1 h2 =>
    if narrow .boolean (.int v1) = .int v1 then some (v1, h2) else none
  else
    zf_b (zf_is 10 p0 h) fun _ =>
    zf_b2 (f_Sheet_placeInOrder p0 p1 h) fun v3 h4 =>
    zf_b (zf_is 10 p0 h4) fun _ =>
    zf_b2 (f_Sheet_placeInOrder p0 p2 h4) fun v5 h6 =>
    if v5 ≤ v3 then
      some ((0 : Int32), h6)
    else
      some ((1 : Int32), h6)
set_option maxHeartbeats 4000000 in
set_option maxRecDepth 400000 in
theorem t_f_Checks_standsAhead_44 {sc : (Nat × (Nat → Int32)) × Bool} {d : Nat} (p0 : Nat) (p1 : Int32) (p2 : Int32) (p3 : Int64) (p4 : Int64) (h : zx_H) (r : Int32) (h' : zx_H) (hf : f_Checks_standsAhead_44 p0 p1 p2 p3 p4 h = some (r, h')) : zx_T sc (d + 1) 248 (44, [(1, .ref p0), (4, .int p1), (5, .int p2), (6, .long p3), (8, .long p4)], []) h (zf_oI r) h' := by
  unfold f_Checks_standsAhead_44 at hf
  refine zv_p (k := 3) (f' := (49, [(1, .ref p0), (4, .int p1), (5, .int p2), (6, .long p3), (8, .long p4)], [.int (lg_cmp p3 p4)])) zq_248 zo_248 (by with_unfolding_all rfl) ?_
  replace hf := zf_ite hf
  obtain ⟨hc, hf⟩ | ⟨hc, hf⟩ := hf
  · refine zv_brT (off := 24) (tt := 73) (r := []) zq_248 zo_248 (zl_ne.mpr hc) rfl rfl rfl ?_
    refine zv_p (k := 4) (f' := (79, [(1, .ref p0), (4, .int p1), (5, .int p2), (6, .long p3), (8, .long p4)], [.int (0 : Int32), .int (0 : Int32), .long p4, .long p3])) zq_248 zo_248 (by with_unfolding_all rfl) ?_
    replace hf := zf_b2e hf
    obtain ⟨v1, h2, hv, hf⟩ := hf
    refine zv_c zq_248 zo_248 rfl rfl rfl rfl rfl rfl (t_f_ColumnVault_isAhead _ _ _ _ _ _ _ hv) ?_
    replace hf := zf_ite hf
    obtain ⟨hc, hf⟩ | ⟨hc, hf⟩ := hf
    · cases hf; exact zv_rn zq_248 zo_248 rfl hc
    · cases hf
  · refine zv_brF (off := 24) (tt := 73) (r := []) zq_248 zo_248 (mt zl_ne.mp hc) rfl rfl rfl ?_
    refine zv_p (k := 2) (f' := (55, [(1, .ref p0), (4, .int p1), (5, .int p2), (6, .long p3), (8, .long p4)], [.int p1, .ref p0])) zq_248 zo_248 (by with_unfolding_all rfl) ?_
    replace hf := zf_be hf
    obtain ⟨_, ho, hf⟩ := hf
    replace hf := zf_b2e hf
    obtain ⟨v3, h4, hv, hf⟩ := hf
    refine zv_c zq_248 zo_248 rfl rfl rfl rfl rfl (zv_cv rfl rfl rfl (zf_ise ho) rfl) (t_f_Sheet_placeInOrder _ _ _ _ _ hv) ?_
    refine zv_p (k := 2) (f' := (61, [(1, .ref p0), (4, .int p1), (5, .int p2), (6, .long p3), (8, .long p4)], [.int p2, .ref p0, .int v3])) zq_248 zo_248 (by with_unfolding_all rfl) ?_
    replace hf := zf_be hf
    obtain ⟨_, ho, hf⟩ := hf
    replace hf := zf_b2e hf
    obtain ⟨v5, h6, hv, hf⟩ := hf
    refine zv_c zq_248 zo_248 rfl rfl rfl rfl rfl (zv_cv rfl rfl rfl (zf_ise ho) rfl) (t_f_Sheet_placeInOrder _ _ _ _ _ hv) ?_
    replace hf := zf_ite hf
    obtain ⟨hc, hf⟩ | ⟨hc, hf⟩ := hf
    · refine zv_brT (off := 7) (tt := 71) (r := []) zq_248 zo_248 hc rfl rfl rfl ?_
      refine zv_p (k := 1) (f' := (72, [(1, .ref p0), (4, .int p1), (5, .int p2), (6, .long p3), (8, .long p4)], [.int (0 : Int32)])) zq_248 zo_248 (by with_unfolding_all rfl) ?_
      cases hf
      exact zv_rn zq_248 zo_248 rfl rfl
    · refine zv_brF (off := 7) (tt := 71) (r := []) zq_248 zo_248 hc rfl rfl rfl ?_
      refine zv_p (k := 2) (f' := (72, [(1, .ref p0), (4, .int p1), (5, .int p2), (6, .long p3), (8, .long p4)], [.int (1 : Int32)])) zq_248 zo_248 (by with_unfolding_all rfl) ?_
      cases hf
      exact zv_rn zq_248 zo_248 rfl rfl
set_option maxHeartbeats 1000000 in
def f_Checks_standsAhead (p0 : Nat) (p1 : Nat) (p2 : Int32) (p3 : Int32) (p4 : Int32) (p5 : Int32) (h : zx_H) : Option (Int32 × zx_H) :=
  zf_b (zf_is 10 p1 h) fun _ =>
  zf_b2 (f_Sheet_keyAt p1 p3 p4 h) fun v1 h2 =>
  zf_b (zf_is 10 p1 h2) fun _ =>
  zf_b2 (f_Sheet_keyAt p1 p3 p5 h2) fun v3 h4 =>
  if ¬ v1 = v3 then
    f_Checks_standsAhead_44 p1 p4 p5 v1 v3 h4
  else
    zf_b (zf_is 10 p1 h4) fun _ =>
    zf_b2 (f_Sheet_keyAt p1 p2 p4 h4) fun v5 h6 =>
    zf_b (zf_is 10 p1 h6) fun _ =>
    zf_b2 (f_Sheet_keyAt p1 p2 p5 h6) fun v7 h8 =>
    f_Checks_standsAhead_44 p1 p4 p5 v5 v7 h8
set_option maxHeartbeats 4000000 in
set_option maxRecDepth 400000 in
theorem t_f_Checks_standsAhead {sc : (Nat × (Nat → Int32)) × Bool} {d : Nat} (p0 : Nat) (p1 : Nat) (p2 : Int32) (p3 : Int32) (p4 : Int32) (p5 : Int32) (h : zx_H) (r : Int32) (h' : zx_H) (hf : f_Checks_standsAhead p0 p1 p2 p3 p4 p5 h = some (r, h')) : zx_T sc (d + 1) 248 (0, [(0, .ref p0), (1, .ref p1), (2, .int p2), (3, .int p3), (4, .int p4), (5, .int p5)], []) h (zf_oI r) h' := by
  unfold f_Checks_standsAhead at hf
  refine zv_p (k := 3) (f' := (4, [(0, .ref p0), (1, .ref p1), (2, .int p2), (3, .int p3), (4, .int p4), (5, .int p5)], [.int p4, .int p3, .ref p1])) zq_248 zo_248 (by with_unfolding_all rfl) ?_
  replace hf := zf_be hf
  obtain ⟨_, ho, hf⟩ := hf
  replace hf := zf_b2e hf
  obtain ⟨v1, h2, hv, hf⟩ := hf
  refine zv_c zq_248 zo_248 rfl rfl rfl rfl rfl (zv_cv rfl rfl rfl (zf_ise ho) rfl) (t_f_Sheet_keyAt _ _ _ _ _ _ hv) ?_
  refine zv_p (k := 4) (f' := (13, [(6, .long v1), (0, .ref p0), (1, .ref p1), (2, .int p2), (3, .int p3), (4, .int p4), (5, .int p5)], [.int p5, .int p3, .ref p1])) zq_248 zo_248 (by with_unfolding_all rfl) ?_
  replace hf := zf_be hf
  obtain ⟨_, ho, hf⟩ := hf
  replace hf := zf_b2e hf
  obtain ⟨v3, h4, hv, hf⟩ := hf
  refine zv_c zq_248 zo_248 rfl rfl rfl rfl rfl (zv_cv rfl rfl rfl (zf_ise ho) rfl) (t_f_Sheet_keyAt _ _ _ _ _ _ hv) ?_
  refine zv_p (k := 4) (f' := (23, [(8, .long v3), (6, .long v1), (0, .ref p0), (1, .ref p1), (2, .int p2), (3, .int p3), (4, .int p4), (5, .int p5)], [.int (lg_cmp v1 v3)])) zq_248 zo_248 (by with_unfolding_all rfl) ?_
  replace hf := zf_ite hf
  obtain ⟨hc, hf⟩ | ⟨hc, hf⟩ := hf
  · refine zv_brT (off := 21) (tt := 44) (r := []) zq_248 zo_248 (zl_ne.mpr hc) rfl rfl rfl ?_
    refine zv_pick (lv' := [(1, .ref p1), (4, .int p4), (5, .int p5), (6, .long v1), (8, .long v3)]) [1, 4, 5, 6, 8] rfl rfl ?_
    exact t_f_Checks_standsAhead_44 _ _ _ _ _ _ _ _ hf
  · refine zv_brF (off := 21) (tt := 44) (r := []) zq_248 zo_248 (mt zl_ne.mp hc) rfl rfl rfl ?_
    refine zv_p (k := 3) (f' := (30, [(8, .long v3), (6, .long v1), (0, .ref p0), (1, .ref p1), (2, .int p2), (3, .int p3), (4, .int p4), (5, .int p5)], [.int p4, .int p2, .ref p1])) zq_248 zo_248 (by with_unfolding_all rfl) ?_
    replace hf := zf_be hf
    obtain ⟨_, ho, hf⟩ := hf
    replace hf := zf_b2e hf
    obtain ⟨v5, h6, hv, hf⟩ := hf
    refine zv_c zq_248 zo_248 rfl rfl rfl rfl rfl (zv_cv rfl rfl rfl (zf_ise ho) rfl) (t_f_Sheet_keyAt _ _ _ _ _ _ hv) ?_
    refine zv_p (k := 4) (f' := (39, [(6, .long v5), (8, .long v3), (0, .ref p0), (1, .ref p1), (2, .int p2), (3, .int p3), (4, .int p4), (5, .int p5)], [.int p5, .int p2, .ref p1])) zq_248 zo_248 (by with_unfolding_all rfl) ?_
    replace hf := zf_be hf
    obtain ⟨_, ho, hf⟩ := hf
    replace hf := zf_b2e hf
    obtain ⟨v7, h8, hv, hf⟩ := hf
    refine zv_c zq_248 zo_248 rfl rfl rfl rfl rfl (zv_cv rfl rfl rfl (zf_ise ho) rfl) (t_f_Sheet_keyAt _ _ _ _ _ _ hv) ?_
    refine zv_p (k := 1) (f' := (44, [(8, .long v7), (6, .long v5), (0, .ref p0), (1, .ref p1), (2, .int p2), (3, .int p3), (4, .int p4), (5, .int p5)], [])) zq_248 zo_248 (by with_unfolding_all rfl) ?_
    refine zv_pick (lv' := [(1, .ref p1), (4, .int p4), (5, .int p5), (6, .long v5), (8, .long v7)]) [1, 4, 5, 6, 8] rfl rfl ?_
    exact t_f_Checks_standsAhead_44 _ _ _ _ _ _ _ _ hf
/-! ColumnVault$Checks.isInBothOrders (LColumnVault$Sheet;II)Z -/
noncomputable def zI_247 : zd_T := [[(0, .aload_n 0, 1), (1, .getfield 12, 3), (4, .aload_n 1, 1), (5, .invokevirtual 44, 3), (8, .aload_n 0, 1), (9, .getfield 12, 3), (12, .iload_n 2, 1), (13, .iconst 0, 1), (14, .iconst 0, 1), (15, .invokevirtual 48, 3), (18, .aload_n 0, 1), (19, .getfield 12, 3), (22, .iload_n 3, 1), (23, .iconst 0, 1), (24, .iconst 0, 1), (25, .invokevirtual 48, 3), (28, .iconst 1, 1), (29, .istore 4, 2), (31, .iload 4, 2)], [(33, .aload_n 0, 1), (34, .getfield 12, 3), (37, .getfield 52, 3), (40, .if_icmp .ge 41, 3), (43, .aload_n 0, 1), (44, .aload_n 1, 1), (45, .iload_n 2, 1), (46, .iload_n 3, 1), (47, .aload_n 0, 1), (48, .getfield 12, 3), (51, .iload 4, 2), (53, .iconst 1, 1), (54, .isub, 1), (55, .invokevirtual 55, 3), (58, .aload_n 0, 1), (59, .getfield 12, 3), (62, .iload 4, 2)], [(64, .invokevirtual 55, 3), (67, .invokevirtual 59, 3), (70, .ifCond .ne 5, 3), (73, .iconst 0, 1), (74, .ireturn, 1), (75, .iinc 4 1, 3), (78, .goto (-47), 3), (81, .aload_n 0, 1), (82, .getfield 12, 3), (85, .aload_n 0, 1), (86, .getfield 12, 3), (89, .getfield 52, 3), (92, .iconst 1, 1), (93, .isub, 1), (94, .invokevirtual 63, 3)], [(97, .aload_n 1, 1), (98, .invokevirtual 67, 3), (101, .lcmp, 1), (102, .ifCond .ne 7, 3), (105, .iconst 1, 1), (106, .goto 4, 3), (109, .iconst 0, 1), (110, .ireturn, 1)]]
theorem zo_247 : zd_of 247 = some zI_247 := rfl
set_option maxRecDepth 100000 in
theorem zq_247 : zt_m[247]? = some (⟨"ColumnVault$Checks", "isInBothOrders", "(LColumnVault$Sheet;II)Z"⟩, prog_2_method_3_code, 5, some (.boolean), [], 2, 3, 0, 0, 0, 0) := rfl
