set_option maxHeartbeats 1000000 in
def f_ColumnVaultLaw_isSorted (p0 : Nat) (p1 : Nat) (p2 : Int32) (h : zx_H) : Option ((Int32 ⊕ Nat) × zx_H) :=
  zf_b (zf_is 12 p0 h) fun _ =>
  zf_b3 (f_ColumnVault_size p0 p2 (1 : Int32) h) fun v1 h2 =>
  f_ColumnVaultLaw_isSorted_10 zF p0 p1 p2 v1 (0 : Int32) h2
set_option maxHeartbeats 4000000 in
set_option maxRecDepth 400000 in
theorem t_f_ColumnVaultLaw_isSorted {sc : (Nat × (Nat → Int32)) × Bool} {d : Nat} (p0 : Nat) (p1 : Nat) (p2 : Int32) (h : zx_H) (r : (Int32 ⊕ Nat)) (h' : zx_H) (hf : f_ColumnVaultLaw_isSorted p0 p1 p2 h = some (r, h')) : zx_T sc (d + 8) 203 (0, [(0, .ref p0), (1, .ref p1), (2, .int p2)], []) h (zf_oIx r) h' := by
  unfold f_ColumnVaultLaw_isSorted at hf
  refine zv_p (k := 3) (f' := (3, [(0, .ref p0), (1, .ref p1), (2, .int p2)], [.int (1 : Int32), .int p2, .ref p0])) zq_203 zo_203 (by with_unfolding_all rfl) ?_
  replace hf := zf_be hf
  obtain ⟨_, ho, hf⟩ := hf
  replace hf := zf_b3e hf
  obtain ⟨v1, h2, hv, hf⟩ | ⟨E3, h2, hv, hf⟩ := hf
  rotate_left
  · cases hf; exact zv_cx zq_203 zo_203 rfl rfl rfl rfl rfl (zv_cv rfl rfl rfl (zf_ise ho) rfl) (t_f_ColumnVault_size _ _ _ _ _ _ hv) rfl
  refine zv_c zq_203 zo_203 rfl rfl rfl rfl rfl (zv_cv rfl rfl rfl (zf_ise ho) rfl) (t_f_ColumnVault_size _ _ _ _ _ _ hv) ?_
  refine zv_p (k := 3) (f' := (10, [(4, .int (0 : Int32)), (3, .int v1), (0, .ref p0), (1, .ref p1), (2, .int p2)], [])) zq_203 zo_203 (by with_unfolding_all rfl) ?_
  refine zv_pick (lv' := [(0, .ref p0), (1, .ref p1), (2, .int p2), (3, .int v1), (4, .int (0 : Int32))]) [0, 1, 2, 3, 4] rfl rfl ?_
  exact t_f_ColumnVaultLaw_isSorted_10 zF _ _ _ _ _ _ _ _ hf
/-! AbstractStringBuilder.inflateIfNeededFor (Ljava/lang/String;)V -/
noncomputable def zI_182 : zd_T := [[(0, .getstatic 18, 3), (3, .ifCond .eq 18, 3), (6, .aload_n 0, 1), (7, .getfield 22, 3), (10, .aload_n 1, 1), (11, .invokevirtual 40, 3), (14, .if_icmp .eq 7, 3), (17, .aload_n 0, 1), (18, .invokevirtual 195, 3), (21, .return_, 1)]]
theorem zo_182 : zd_of 182 = some zI_182 := rfl
set_option maxRecDepth 100000 in
theorem zq_182 : zt_m[182]? = some (⟨"java/lang/AbstractStringBuilder", "inflateIfNeededFor", "(Ljava/lang/String;)V"⟩, prog_17_method_71_code, 2, none, [], 20, 1, 0, 0, 99999, 0) := rfl
set_option maxHeartbeats 1000000 in
def f_AbstractStringBuilder_inflateIfNeededFor (p0 : Nat) (p1 : Nat) (h : zx_H) : Option (Unit × zx_H) :=
  if (1 : Int32) = 0 then
    some ((), h)
  else
    zf_b (zf_I 1 1 p0 h) fun v1 =>
    zf_b (zf_is 0 p1 h) fun _ =>
    zf_b2 (f_String_coder p1 h) fun v2 h3 =>
    if v1 = v2 then
      some ((), h3)
    else
      zf_b (zf_is 1 p0 h3) fun _ =>
      zf_b2 (f_AbstractStringBuilder_inflate p0 h3) fun _ h5 =>
      some ((), h5)
set_option maxHeartbeats 4000000 in
set_option maxRecDepth 400000 in
theorem t_f_AbstractStringBuilder_inflateIfNeededFor {sc : (Nat × (Nat → Int32)) × Bool} {d : Nat} (p0 : Nat) (p1 : Nat) (h : zx_H) (r : Unit) (h' : zx_H) (hf : f_AbstractStringBuilder_inflateIfNeededFor p0 p1 h = some (r, h')) : zx_T sc (d + 2) 182 (0, [(0, .ref p0), (1, .ref p1)], []) h (zf_oV r) h' := by
  unfold f_AbstractStringBuilder_inflateIfNeededFor at hf
  refine zv_gs zq_182 zo_182 rfl rfl rfl ?_
  replace hf := zf_ite hf
  obtain ⟨hc, hf⟩ | ⟨hc, hf⟩ := hf
  · refine zv_brT (off := 18) (tt := 21) (r := []) zq_182 zo_182 hc rfl rfl rfl ?_
    cases hf
    exact zv_r zq_182 zo_182 rfl rfl rfl rfl rfl
  · refine zv_brF (off := 18) (tt := 21) (r := []) zq_182 zo_182 hc rfl rfl rfl ?_
    refine zv_p (k := 1) (f' := (7, [(0, .ref p0), (1, .ref p1)], [.ref p0])) zq_182 zo_182 (by with_unfolding_all rfl) ?_
    replace hf := zf_be hf
    obtain ⟨v1, hv, hf⟩ := hf
    refine zv_gf zq_182 zo_182 rfl rfl rfl (zf_Ie hv) ?_
    refine zv_p (k := 1) (f' := (11, [(0, .ref p0), (1, .ref p1)], [.ref p1, .int v1])) zq_182 zo_182 (by with_unfolding_all rfl) ?_
    replace hf := zf_be hf
    obtain ⟨_, ho, hf⟩ := hf
    replace hf := zf_b2e hf
    obtain ⟨v2, h3, hv, hf⟩ := hf
    refine zv_c zq_182 zo_182 rfl rfl rfl rfl rfl (zv_cv rfl rfl rfl (zf_ise ho) rfl) (t_f_String_coder _ _ _ _ hv) ?_
    replace hf := zf_ite hf
    obtain ⟨hc, hf⟩ | ⟨hc, hf⟩ := hf
    · refine zv_brT (off := 7) (tt := 21) (r := []) zq_182 zo_182 hc rfl rfl rfl ?_
      cases hf
      exact zv_r zq_182 zo_182 rfl rfl rfl rfl rfl
    · refine zv_brF (off := 7) (tt := 21) (r := []) zq_182 zo_182 hc rfl rfl rfl ?_
      refine zv_p (k := 1) (f' := (18, [(0, .ref p0), (1, .ref p1)], [.ref p0])) zq_182 zo_182 (by with_unfolding_all rfl) ?_
      replace hf := zf_be hf
      obtain ⟨_, ho, hf⟩ := hf
      replace hf := zf_b2e hf
      obtain ⟨v4, h5, hv, hf⟩ := hf
      refine zv_c zq_182 zo_182 rfl rfl rfl rfl rfl (zv_cp rfl rfl rfl (zf_ise ho) rfl) (t_f_AbstractStringBuilder_inflate _ _ _ _ hv) ?_
      cases hf
      exact zv_r zq_182 zo_182 rfl rfl rfl rfl rfl
/-! StringLatin1.inflate (arr BIarr BII)V -/
noncomputable def zI_146 : zd_T := [[(0, .aload_n 0, 1), (1, .iload_n 1, 1), (2, .aload_n 2, 1), (3, .iload_n 3, 1), (4, .iload 4, 2), (6, .invokestatic 240, 3), (9, .return_, 1)]]
theorem zo_146 : zd_of 146 = some zI_146 := rfl
set_option maxRecDepth 100000 in
theorem zq_146 : zt_m[146]? = some (⟨"java/lang/StringLatin1", "inflate", "([BI[BII)V"⟩, prog_33_method_50_code, 5, none, [], 24, 5, 0, 1, 99999, 0) := rfl
set_option maxHeartbeats 1000000 in
def f_StringLatin1_inflate (p0 : Nat) (p1 : Int32) (p2 : Nat) (p3 : Int32) (p4 : Int32) (h : zx_H) : Option (Unit × zx_H) :=
  none
set_option maxHeartbeats 4000000 in
set_option maxRecDepth 400000 in
theorem t_f_StringLatin1_inflate {sc : (Nat × (Nat → Int32)) × Bool} {d : Nat} (p0 : Nat) (p1 : Int32) (p2 : Nat) (p3 : Int32) (p4 : Int32) (h : zx_H) (r : Unit) (h' : zx_H) (hf : f_StringLatin1_inflate p0 p1 p2 p3 p4 h = some (r, h')) : zx_T sc d 146 (0, [(0, .ref p0), (1, .int p1), (2, .ref p2), (3, .int p3), (4, .int p4)], []) h (zf_oV r) h' := by
  unfold f_StringLatin1_inflate at hf
  refine zv_p (k := 5) (f' := (6, [(0, .ref p0), (1, .int p1), (2, .ref p2), (3, .int p3), (4, .int p4)], [.int p4, .int p3, .ref p2, .int p1, .ref p0])) zq_146 zo_146 (by with_unfolding_all rfl) ?_
  cases hf
/-! String.getBytes (arr BIB)V -/
noncomputable def zI_183 : zd_T := [[(0, .aload_n 0, 1), (1, .invokevirtual 335, 3), (4, .iload_n 3, 1), (5, .if_icmp .ne 23, 3), (8, .aload_n 0, 1), (9, .getfield 9, 3), (12, .iconst 0, 1), (13, .aload_n 1, 1), (14, .iload_n 2, 1), (15, .iload_n 3, 1), (16, .ishl, 1), (17, .aload_n 0, 1), (18, .getfield 9, 3), (21, .arraylength, 1), (22, .invokestatic 212, 3), (25, .goto 18, 3), (28, .aload_n 0, 1), (29, .getfield 9, 3)], [(32, .iconst 0, 1), (33, .aload_n 1, 1), (34, .iload_n 2, 1), (35, .aload_n 0, 1), (36, .getfield 9, 3), (39, .arraylength, 1), (40, .invokestatic 106, 3), (43, .return_, 1)]]
theorem zo_183 : zd_of 183 = some zI_183 := rfl
set_option maxRecDepth 100000 in
theorem zq_183 : zt_m[183]? = some (⟨"java/lang/String", "getBytes", "([BIB)V"⟩, prog_31_method_147_code, 4, none, [], 0, 3, 0, 0, 0, 0) := rfl
set_option maxHeartbeats 1000000 in
def f_String_getBytes (p0 : Nat) (p1 : Nat) (p2 : Int32) (p3 : Int32) (h : zx_H) : Option (Unit × zx_H) :=
  zf_b (zf_is 0 p0 h) fun _ =>
  zf_b2 (f_String_coder p0 h) fun v1 h2 =>
  if ¬ v1 = p3 then
    zf_b (zfx_A 0 0 p0 h2) fun v3 =>
    zf_b (zfx_A 0 0 p0 h2) fun v4 =>
    zf_b (zf_len v4 h2) fun v5 =>
    none
  else
    zf_b (zfx_A 0 0 p0 h2) fun v6 =>
    zf_b (zfx_A 0 0 p0 h2) fun v7 =>
    zf_b (zf_len v7 h2) fun v8 =>
    zf_b (zf_cpy v6 (0 : Int32) p1 (p2 <<< (p3 &&& 31)) v8 h2) fun h9 =>
    some ((), h9)
set_option maxHeartbeats 4000000 in
set_option maxRecDepth 400000 in
theorem t_f_String_getBytes {sc : (Nat × (Nat → Int32)) × Bool} {d : Nat} (p0 : Nat) (p1 : Nat) (p2 : Int32) (p3 : Int32) (h : zx_H) (r : Unit) (h' : zx_H) (hf : f_String_getBytes p0 p1 p2 p3 h = some (r, h')) : zx_T sc (d + 1) 183 (0, [(0, .ref p0), (1, .ref p1), (2, .int p2), (3, .int p3)], []) h (zf_oV r) h' := by
  unfold f_String_getBytes at hf
  refine zv_p (k := 1) (f' := (1, [(0, .ref p0), (1, .ref p1), (2, .int p2), (3, .int p3)], [.ref p0])) zq_183 zo_183 (by with_unfolding_all rfl) ?_
  replace hf := zf_be hf
  obtain ⟨_, ho, hf⟩ := hf
  replace hf := zf_b2e hf
  obtain ⟨v1, h2, hv, hf⟩ := hf
  refine zv_c zq_183 zo_183 rfl rfl rfl rfl rfl (zv_cv rfl rfl rfl (zf_ise ho) rfl) (t_f_String_coder _ _ _ _ hv) ?_
  refine zv_p (k := 1) (f' := (5, [(0, .ref p0), (1, .ref p1), (2, .int p2), (3, .int p3)], [.int p3, .int v1])) zq_183 zo_183 (by with_unfolding_all rfl) ?_
  replace hf := zf_ite hf
  obtain ⟨hc, hf⟩ | ⟨hc, hf⟩ := hf
  · refine zv_brT (off := 23) (tt := 28) (r := []) zq_183 zo_183 hc rfl rfl rfl ?_
    refine zv_p (k := 1) (f' := (29, [(0, .ref p0), (1, .ref p1), (2, .int p2), (3, .int p3)], [.ref p0])) zq_183 zo_183 (by with_unfolding_all rfl) ?_
    replace hf := zf_be hf
    obtain ⟨v3, hv, hf⟩ := hf
    refine zv_gfx zq_183 zo_183 rfl rfl (zfx_Ae hv) ?_
    refine zv_p (k := 4) (f' := (36, [(0, .ref p0), (1, .ref p1), (2, .int p2), (3, .int p3)], [.ref p0, .int p2, .ref p1, .int (0 : Int32), .ref v3])) zq_183 zo_183 (by with_unfolding_all rfl) ?_
    replace hf := zf_be hf
    obtain ⟨v4, hv, hf⟩ := hf
    refine zv_gfx zq_183 zo_183 rfl rfl (zfx_Ae hv) ?_
    replace hf := zf_be hf
    obtain ⟨v5, hv, hf⟩ := hf
    refine zv_len zq_183 zo_183 rfl hv ?_
    cases hf
  · refine zv_brF (off := 23) (tt := 28) (r := []) zq_183 zo_183 hc rfl rfl rfl ?_
    refine zv_p (k := 1) (f' := (9, [(0, .ref p0), (1, .ref p1), (2, .int p2), (3, .int p3)], [.ref p0])) zq_183 zo_183 (by with_unfolding_all rfl) ?_
    replace hf := zf_be hf
    obtain ⟨v6, hv, hf⟩ := hf
    refine zv_gfx zq_183 zo_183 rfl rfl (zfx_Ae hv) ?_
    refine zv_p (k := 6) (f' := (18, [(0, .ref p0), (1, .ref p1), (2, .int p2), (3, .int p3)], [.ref p0, .int (p2 <<< (p3 &&& 31)), .ref p1, .int (0 : Int32), .ref v6])) zq_183 zo_183 (by with_unfolding_all rfl) ?_
    replace hf := zf_be hf
    obtain ⟨v7, hv, hf⟩ := hf
    refine zv_gfx zq_183 zo_183 rfl rfl (zfx_Ae hv) ?_
    replace hf := zf_be hf
    obtain ⟨v8, hv, hf⟩ := hf
    refine zv_len zq_183 zo_183 rfl hv ?_
    replace hf := zf_be hf
    obtain ⟨h9, hv, hf⟩ := hf
    refine zv_cpy zq_183 zo_183 rfl rfl rfl hv ?_
    refine zv_p (k := 1) (f' := (43, [(0, .ref p0), (1, .ref p1), (2, .int p2), (3, .int p3)], [])) zq_183 zo_183 (by with_unfolding_all rfl) ?_
    cases hf
    exact zv_r zq_183 zo_183 rfl rfl rfl rfl rfl
/-! AbstractStringBuilder.putStringAt (ILjava/lang/String;)V -/
noncomputable def zI_181 : zd_T := [[(0, .aload_n 0, 1), (1, .aload_n 2, 1), (2, .invokevirtual 397, 3), (5, .aload_n 2, 1), (6, .aload_n 0, 1), (7, .getfield 15, 3), (10, .iload_n 1, 1), (11, .aload_n 0, 1), (12, .getfield 22, 3), (15, .invokevirtual 399, 3), (18, .return_, 1)]]
theorem zo_181 : zd_of 181 = some zI_181 := rfl
set_option maxRecDepth 100000 in
theorem zq_181 : zt_m[181]? = some (⟨"java/lang/AbstractStringBuilder", "putStringAt", "(ILjava/lang/String;)V"⟩, prog_17_method_73_code, 3, none, [], 20, 2, 0, 0, 99999, 0) := rfl
set_option maxHeartbeats 1000000 in
def f_AbstractStringBuilder_putStringAt (p0 : Nat) (p1 : Int32) (p2 : Nat) (h : zx_H) : Option (Unit × zx_H) :=
  zf_b (zf_is 1 p0 h) fun _ =>
  zf_b2 (f_AbstractStringBuilder_inflateIfNeededFor p0 p2 h) fun _ h2 =>
  zf_b (zf_A 1 0 p0 h2) fun v3 =>
  zf_b (zf_I 1 1 p0 h2) fun v4 =>
  zf_b (zf_is 0 p2 h2) fun _ =>
  zf_b2 (f_String_getBytes p2 v3 p1 v4 h2) fun _ h6 =>
  some ((), h6)
set_option maxHeartbeats 4000000 in
set_option maxRecDepth 400000 in
theorem t_f_AbstractStringBuilder_putStringAt {sc : (Nat × (Nat → Int32)) × Bool} {d : Nat} (p0 : Nat) (p1 : Int32) (p2 : Nat) (h : zx_H) (r : Unit) (h' : zx_H) (hf : f_AbstractStringBuilder_putStringAt p0 p1 p2 h = some (r, h')) : zx_T sc (d + 3) 181 (0, [(0, .ref p0), (1, .int p1), (2, .ref p2)], []) h (zf_oV r) h' := by
  unfold f_AbstractStringBuilder_putStringAt at hf
  refine zv_p (k := 2) (f' := (2, [(0, .ref p0), (1, .int p1), (2, .ref p2)], [.ref p2, .ref p0])) zq_181 zo_181 (by with_unfolding_all rfl) ?_
  replace hf := zf_be hf
  obtain ⟨_, ho, hf⟩ := hf
  replace hf := zf_b2e hf
  obtain ⟨v1, h2, hv, hf⟩ := hf
  refine zv_c zq_181 zo_181 rfl rfl rfl rfl rfl (zv_cp rfl rfl rfl (zf_ise ho) rfl) (t_f_AbstractStringBuilder_inflateIfNeededFor _ _ _ _ _ hv) ?_
  refine zv_p (k := 2) (f' := (7, [(0, .ref p0), (1, .int p1), (2, .ref p2)], [.ref p0, .ref p2])) zq_181 zo_181 (by with_unfolding_all rfl) ?_
  replace hf := zf_be hf
  obtain ⟨v3, hv, hf⟩ := hf
  refine zv_gf zq_181 zo_181 rfl rfl rfl (zf_Ae hv) ?_
  refine zv_p (k := 2) (f' := (12, [(0, .ref p0), (1, .int p1), (2, .ref p2)], [.ref p0, .int p1, .ref v3, .ref p2])) zq_181 zo_181 (by with_unfolding_all rfl) ?_
  replace hf := zf_be hf
  obtain ⟨v4, hv, hf⟩ := hf
  refine zv_gf zq_181 zo_181 rfl rfl rfl (zf_Ie hv) ?_
  replace hf := zf_be hf
  obtain ⟨_, ho, hf⟩ := hf
  replace hf := zf_b2e hf
  obtain ⟨v5, h6, hv, hf⟩ := hf
  refine zv_c zq_181 zo_181 rfl rfl rfl rfl rfl (zv_cv rfl rfl rfl (zf_ise ho) rfl) (t_f_String_getBytes _ _ _ _ _ _ _ hv) ?_
  cases hf
  exact zv_r zq_181 zo_181 rfl rfl rfl rfl rfl
/-! AbstractStringBuilder.append (Ljava/lang/String;)Ljava/lang/AbstractStringBuilder; -/
noncomputable def zI_176 : zd_T := [[(0, .aload_n 1, 1), (1, .ifnonnull 8, 3), (4, .aload_n 0, 1), (5, .invokevirtual 204, 3), (8, .areturn, 1), (9, .aload_n 1, 1), (10, .invokevirtual 32, 3), (13, .istore_n 2, 1), (14, .aload_n 0, 1), (15, .aload_n 0, 1), (16, .getfield 79, 3), (19, .iload_n 2, 1), (20, .iadd, 1), (21, .invokevirtual 100, 3), (24, .aload_n 0, 1), (25, .aload_n 0, 1), (26, .getfield 79, 3), (29, .aload_n 1, 1), (30, .invokevirtual 208, 3)], [(33, .aload_n 0, 1), (34, .dup, 1), (35, .getfield 79, 3), (38, .iload_n 2, 1), (39, .iadd, 1), (40, .putfield 79, 3), (43, .aload_n 0, 1), (44, .areturn, 1)]]
theorem zo_176 : zd_of 176 = some zI_176 := rfl
set_option maxRecDepth 100000 in
theorem zq_176 : zt_m[176]? = some (⟨"java/lang/AbstractStringBuilder", "append", "(Ljava/lang/String;)Ljava/lang/AbstractStringBuilder;"⟩, prog_17_method_22_code, 3, some (.object "java/lang/AbstractStringBuilder"), [], 20, 1, 0, 0, 99999, 0) := rfl
set_option maxHeartbeats 1000000 in
def f_AbstractStringBuilder_appendq3 (p0 : Nat) (p1 : Nat) (h : zx_H) : Option (Nat × zx_H) :=
  zf_b (zf_is 0 p1 h) fun _ =>
  zf_b2 (f_String_length p1 h) fun v1 h2 =>
  zf_b (zf_I 1 3 p0 h2) fun v3 =>
  zf_b (zf_is 1 p0 h2) fun _ =>
  zf_b2 (f_AbstractStringBuilder_ensureCapacityInternal p0 (v3 + v1) h2) fun _ h5 =>
  zf_b (zf_I 1 3 p0 h5) fun v6 =>
  zf_b (zf_is 1 p0 h5) fun _ =>
  zf_b2 (f_AbstractStringBuilder_putStringAt p0 v6 p1 h5) fun _ h8 =>
  zf_b (zf_I 1 3 p0 h8) fun v9 =>
  zf_b (zf_put 1 3 p0 (.int (v9 + v1)) h8) fun h10 =>
  some (p0, h10)
set_option maxHeartbeats 4000000 in
set_option maxRecDepth 400000 in
theorem t_f_AbstractStringBuilder_appendq3 {sc : (Nat × (Nat → Int32)) × Bool} {d : Nat} (p0 : Nat) (p1 : Nat) (h : zx_H) (r : Nat) (h' : zx_H) (hf : f_AbstractStringBuilder_appendq3 p0 p1 h = some (r, h')) : zx_T sc (d + 4) 176 (0, [(0, .ref p0), (1, .ref p1)], []) h (zf_oA r) h' := by
  unfold f_AbstractStringBuilder_appendq3 at hf
  refine zv_p (k := 3) (f' := (10, [(0, .ref p0), (1, .ref p1)], [.ref p1])) zq_176 zo_176 (by with_unfolding_all rfl) ?_
  replace hf := zf_be hf
  obtain ⟨_, ho, hf⟩ := hf
  replace hf := zf_b2e hf
  obtain ⟨v1, h2, hv, hf⟩ := hf
  refine zv_c zq_176 zo_176 rfl rfl rfl rfl rfl (zv_cv rfl rfl rfl (zf_ise ho) rfl) (t_f_String_length _ _ _ _ hv) ?_
  refine zv_p (k := 3) (f' := (16, [(2, .int v1), (0, .ref p0), (1, .ref p1)], [.ref p0, .ref p0])) zq_176 zo_176 (by with_unfolding_all rfl) ?_
  replace hf := zf_be hf
  obtain ⟨v3, hv, hf⟩ := hf
  refine zv_gf zq_176 zo_176 rfl rfl rfl (zf_Ie hv) ?_
  refine zv_p (k := 2) (f' := (21, [(2, .int v1), (0, .ref p0), (1, .ref p1)], [.int (v3 + v1), .ref p0])) zq_176 zo_176 (by with_unfolding_all rfl) ?_
  replace hf := zf_be hf
  obtain ⟨_, ho, hf⟩ := hf
  replace hf := zf_b2e hf
  obtain ⟨v4, h5, hv, hf⟩ := hf
  refine zv_c zq_176 zo_176 rfl rfl rfl rfl rfl (zv_cp rfl rfl rfl (zf_ise ho) rfl) (t_f_AbstractStringBuilder_ensureCapacityInternal _ _ _ _ _ hv) ?_
  refine zv_p (k := 2) (f' := (26, [(2, .int v1), (0, .ref p0), (1, .ref p1)], [.ref p0, .ref p0])) zq_176 zo_176 (by with_unfolding_all rfl) ?_
  replace hf := zf_be hf
  obtain ⟨v6, hv, hf⟩ := hf
  refine zv_gf zq_176 zo_176 rfl rfl rfl (zf_Ie hv) ?_
  refine zv_p (k := 1) (f' := (30, [(2, .int v1), (0, .ref p0), (1, .ref p1)], [.ref p1, .int v6, .ref p0])) zq_176 zo_176 (by with_unfolding_all rfl) ?_
  replace hf := zf_be hf
  obtain ⟨_, ho, hf⟩ := hf
  replace hf := zf_b2e hf
  obtain ⟨v7, h8, hv, hf⟩ := hf
  refine zv_c zq_176 zo_176 rfl rfl rfl rfl rfl (zv_cp rfl rfl rfl (zf_ise ho) rfl) (t_f_AbstractStringBuilder_putStringAt _ _ _ _ _ _ hv) ?_
  refine zv_p (k := 2) (f' := (35, [(2, .int v1), (0, .ref p0), (1, .ref p1)], [.ref p0, .ref p0])) zq_176 zo_176 (by with_unfolding_all rfl) ?_
  replace hf := zf_be hf
  obtain ⟨v9, hv, hf⟩ := hf
  refine zv_gf zq_176 zo_176 rfl rfl rfl (zf_Ie hv) ?_
  refine zv_p (k := 2) (f' := (40, [(2, .int v1), (0, .ref p0), (1, .ref p1)], [.int (v9 + v1), .ref p0])) zq_176 zo_176 (by with_unfolding_all rfl) ?_
  replace hf := zf_be hf
  obtain ⟨h10, hv, hf⟩ := hf
  refine zv_pf zq_176 zo_176 rfl rfl rfl rfl hv ?_
  refine zv_p (k := 1) (f' := (44, [(2, .int v1), (0, .ref p0), (1, .ref p1)], [.ref p0])) zq_176 zo_176 (by with_unfolding_all rfl) ?_
  cases hf
  exact zv_r zq_176 zo_176 rfl rfl rfl rfl rfl
/-! StringBuilder.append (Ljava/lang/String;)Ljava/lang/StringBuilder; -/
noncomputable def zI_175 : zd_T := [[(0, .aload_n 0, 1), (1, .aload_n 1, 1), (2, .invokespecial 29, 3), (5, .pop, 1), (6, .aload_n 0, 1), (7, .areturn, 1)]]
theorem zo_175 : zd_of 175 = some zI_175 := rfl
set_option maxRecDepth 100000 in
theorem zq_175 : zt_m[175]? = some (⟨"java/lang/StringBuilder", "append", "(Ljava/lang/String;)Ljava/lang/StringBuilder;"⟩, prog_32_method_7_code, 2, some (.object "java/lang/StringBuilder"), [], 1, 1, 0, 0, 0, 0) := rfl
set_option maxHeartbeats 1000000 in
def f_StringBuilder_appendq3 (p0 : Nat) (p1 : Nat) (h : zx_H) : Option (Nat × zx_H) :=
  zf_b (zf_is 1 p0 h) fun _ =>
  zf_b2 (f_AbstractStringBuilder_appendq3 p0 p1 h) fun v1 h2 =>
  some (p0, h2)
set_option maxHeartbeats 4000000 in
set_option maxRecDepth 400000 in
theorem t_f_StringBuilder_appendq3 {sc : (Nat × (Nat → Int32)) × Bool} {d : Nat} (p0 : Nat) (p1 : Nat) (h : zx_H) (r : Nat) (h' : zx_H) (hf : f_StringBuilder_appendq3 p0 p1 h = some (r, h')) : zx_T sc (d + 5) 175 (0, [(0, .ref p0), (1, .ref p1)], []) h (zf_oA r) h' := by
  unfold f_StringBuilder_appendq3 at hf
  refine zv_p (k := 2) (f' := (2, [(0, .ref p0), (1, .ref p1)], [.ref p1, .ref p0])) zq_175 zo_175 (by with_unfolding_all rfl) ?_
  replace hf := zf_be hf
  obtain ⟨_, ho, hf⟩ := hf
  replace hf := zf_b2e hf
  obtain ⟨v1, h2, hv, hf⟩ := hf
  refine zv_c zq_175 zo_175 rfl rfl rfl rfl rfl (zv_cs rfl rfl rfl (zf_ise ho) rfl) (t_f_AbstractStringBuilder_appendq3 _ _ _ _ _ hv) ?_
  refine zv_p (k := 2) (f' := (7, [(0, .ref p0), (1, .ref p1)], [.ref p0])) zq_175 zo_175 (by with_unfolding_all rfl) ?_
  cases hf
  exact zv_r zq_175 zo_175 rfl rfl rfl rfl rfl
/-! StringBuilder.append (Ljava/lang/String;)Ljava/lang/AbstractStringBuilder; -/
noncomputable def zI_259 : zd_T := [[(0, .aload_n 0, 1), (1, .aload_n 1, 1), (2, .invokevirtual 23, 3), (5, .areturn, 1)]]
theorem zo_259 : zd_of 259 = some zI_259 := rfl
set_option maxRecDepth 100000 in
theorem zq_259 : zt_m[259]? = some (⟨"java/lang/StringBuilder", "append", "(Ljava/lang/String;)Ljava/lang/AbstractStringBuilder;"⟩, prog_32_method_80_code, 2, some (.object "java/lang/AbstractStringBuilder"), [], 1, 1, 0, 0, 99999, 0) := rfl
set_option maxHeartbeats 1000000 in
def f_StringBuilder_appendq4 (p0 : Nat) (p1 : Nat) (h : zx_H) : Option (Nat × zx_H) :=
  zf_b (zf_is 1 p0 h) fun _ =>
  zf_b2 (f_StringBuilder_appendq3 p0 p1 h) fun v1 h2 =>
  some (v1, h2)
set_option maxHeartbeats 4000000 in
set_option maxRecDepth 400000 in
theorem t_f_StringBuilder_appendq4 {sc : (Nat × (Nat → Int32)) × Bool} {d : Nat} (p0 : Nat) (p1 : Nat) (h : zx_H) (r : Nat) (h' : zx_H) (hf : f_StringBuilder_appendq4 p0 p1 h = some (r, h')) : zx_T sc (d + 6) 259 (0, [(0, .ref p0), (1, .ref p1)], []) h (zf_oA r) h' := by
  unfold f_StringBuilder_appendq4 at hf
  refine zv_p (k := 2) (f' := (2, [(0, .ref p0), (1, .ref p1)], [.ref p1, .ref p0])) zq_259 zo_259 (by with_unfolding_all rfl) ?_
  replace hf := zf_be hf
  obtain ⟨_, ho, hf⟩ := hf
  replace hf := zf_b2e hf
  obtain ⟨v1, h2, hv, hf⟩ := hf
  refine zv_c zq_259 zo_259 rfl rfl rfl rfl rfl (zv_cv rfl rfl rfl (zf_ise ho) rfl) (t_f_StringBuilder_appendq3 _ _ _ _ _ hv) ?_
  cases hf
  exact zv_r zq_259 zo_259 rfl rfl rfl rfl rfl
def fv_3 (p0 : Nat) (p1 : Nat) (h : zx_H) : Option (Nat × zx_H) := zf_kd p0 h fun ci =>
  if ci = 1 then f_StringBuilder_appendq4 p0 p1 h
  else none
theorem tv_3 {sc : (Nat × (Nat → Int32)) × Bool} {d : Nat} {p0 : Nat} {p1 : Nat} {h : zx_H} {r : Nat} {h' : zx_H} (hv : fv_3 p0 p1 h = some (r, h')) : ∃ mj, (∀ (oc i y w : Nat) (st rest : List Value), zx_pool oc i = some (12, 3, y, w) → st.drop 1 = .ref p0 :: rest → (st.take 1).reverse = [.ref p1] → Nat.ble (zx_cs rest) 8 = true → zx_c oc st h (.invokevirtual i) 3 = some (mj, .ref p0 :: [.ref p1], rest)) ∧ zx_T sc (d + 6) mj (0, [(0, .ref p0), (1, .ref p1)], []) h (zf_oA r) h' := by
  unfold fv_3 at hv
  obtain ⟨ci, hk, hv⟩ := zf_kde hv
  obtain ⟨rfl, hv⟩ | ⟨-, hv⟩ := zf_ite hv
  · refine ⟨259, fun oc i y w st rest h1 h2 h3 h4 => ?_, t_f_StringBuilder_appendq4 _ _ _ _ _ hv⟩
    have h5 := zv_c12 (mj := 259) (npj := 1) h1 rfl rfl rfl h2 hk (by rw [h4, h3]; rfl)
    rw [h3] at h5
    exact h5
  · cases hv
/-! AbstractStringBuilder.init (Ljava/lang/String;)V -/
noncomputable def zI_258 : zd_T := [[(0, .aload_n 0, 1), (1, .invokespecial 3, 3), (4, .aload_n 1, 1), (5, .invokevirtual 32, 3), (8, .istore_n 2, 1), (9, .iload_n 2, 1), (10, .ldc 38, 2), (12, .if_icmp .ge 10, 3), (15, .iload_n 2, 1), (16, .bipush 16, 2), (18, .iadd, 1), (19, .goto 5, 3), (22, .ldc 39, 2), (24, .istore_n 3, 1), (25, .aload_n 1, 1), (26, .invokevirtual 40, 3), (29, .istore 4, 2), (31, .aload_n 0, 1)], [(32, .iload 4, 2), (34, .putfield 22, 3), (37, .aload_n 0, 1), (38, .iload 4, 2), (40, .ifCond .ne 9, 3), (43, .iload_n 3, 1), (44, .newarray .byte, 2), (46, .goto 7, 3), (49, .iload_n 3, 1), (50, .invokestatic 26, 3), (53, .putfield 15, 3), (56, .aload_n 0, 1), (57, .aload_n 1, 1), (58, .invokevirtual 43, 3), (61, .pop, 1), (62, .return_, 1)]]
theorem zo_258 : zd_of 258 = some zI_258 := rfl
set_option maxRecDepth 100000 in
theorem zq_258 : zt_m[258]? = some (⟨"java/lang/AbstractStringBuilder", "<init>", "(Ljava/lang/String;)V"⟩, prog_17_method_3_code, 5, none, [], 20, 1, 0, 2, 99999, 0) := rfl
set_option maxHeartbeats 1000000 in
def f_AbstractStringBuilder_initq2_24 (p0 : Nat) (p1 : Nat) (p2 : Int32) (h : zx_H) : Option (Unit × zx_H) :=
  zf_b (zf_is 0 p1 h) fun _ =>
  zf_b2 (f_String_coder p1 h) fun v1 h2 =>
  if narrow .byte (.int v1) = .int v1 then
  zf_b (zf_put 1 1 p0 (.int v1) h2) fun h3 =>
  if ¬ v1 = 0 then
    none
  else
    zf_b2 (zf_newa .byte 3 p2 h3) fun q4 h5 =>
    zf_b (zf_put 1 0 p0 (.ref q4) h5) fun h6 =>
    zf_b2 (fv_3 p0 p1 h6) fun v7 h8 =>
    some ((), h8)
  else none
set_option maxHeartbeats 4000000 in
set_option maxRecDepth 400000 in
theorem t_f_AbstractStringBuilder_initq2_24 {sc : (Nat × (Nat → Int32)) × Bool} {d : Nat} (p0 : Nat) (p1 : Nat) (p2 : Int32) (h : zx_H) (r : Unit) (h' : zx_H) (hf : f_AbstractStringBuilder_initq2_24 p0 p1 p2 h = some (r, h')) : zx_T sc (d + 7) 258 (24, [(0, .ref p0), (1, .ref p1)], [.int p2]) h (zf_oV r) h' := by
  unfold f_AbstractStringBuilder_initq2_24 at hf
  refine zv_p (k := 2) (f' := (26, [(3, .int p2), (0, .ref p0), (1, .ref p1)], [.ref p1])) zq_258 zo_258 (by with_unfolding_all rfl) ?_
  replace hf := zf_be hf
  obtain ⟨_, ho, hf⟩ := hf
  replace hf := zf_b2e hf
  obtain ⟨v1, h2, hv, hf⟩ := hf
  refine zv_c zq_258 zo_258 rfl rfl rfl rfl rfl (zv_cv rfl rfl rfl (zf_ise ho) rfl) (t_f_String_coder _ _ _ _ hv) ?_
  refine zv_p (k := 3) (f' := (34, [(4, .int v1), (3, .int p2), (0, .ref p0), (1, .ref p1)], [.int v1, .ref p0])) zq_258 zo_258 (by with_unfolding_all rfl) ?_
  replace hf := zf_ite hf
  obtain ⟨hc, hf⟩ | ⟨hc, hf⟩ := hf
  rotate_left
  · cases hf
  replace hf := zf_be hf
  obtain ⟨h3, hv, hf⟩ := hf
  refine zv_pfn zq_258 zo_258 rfl rfl hc rfl hv ?_
  refine zv_p (k := 2) (f' := (40, [(4, .int v1), (3, .int p2), (0, .ref p0), (1, .ref p1)], [.int v1, .ref p0])) zq_258 zo_258 (by with_unfolding_all rfl) ?_
  replace hf := zf_ite hf
  obtain ⟨hc, hf⟩ | ⟨hc, hf⟩ := hf
  · refine zv_brT (off := 9) (tt := 49) (r := [.ref p0]) zq_258 zo_258 hc rfl rfl rfl ?_
    refine zv_p (k := 1) (f' := (50, [(4, .int v1), (3, .int p2), (0, .ref p0), (1, .ref p1)], [.int p2, .ref p0])) zq_258 zo_258 (by with_unfolding_all rfl) ?_
    cases hf
  · refine zv_brF (off := 9) (tt := 49) (r := [.ref p0]) zq_258 zo_258 hc rfl rfl rfl ?_
    refine zv_p (k := 1) (f' := (44, [(4, .int v1), (3, .int p2), (0, .ref p0), (1, .ref p1)], [.int p2, .ref p0])) zq_258 zo_258 (by with_unfolding_all rfl) ?_
    replace hf := zf_b2e hf
    obtain ⟨q4, h5, hv, hf⟩ := hf
    refine zv_newa zq_258 zo_258 rfl rfl hv ?_
    refine zv_p (k := 1) (f' := (53, [(4, .int v1), (3, .int p2), (0, .ref p0), (1, .ref p1)], [.ref q4, .ref p0])) zq_258 zo_258 (by with_unfolding_all rfl) ?_
    replace hf := zf_be hf
    obtain ⟨h6, hv, hf⟩ := hf
    refine zv_pf zq_258 zo_258 rfl rfl rfl rfl hv ?_
    refine zv_p (k := 2) (f' := (58, [(4, .int v1), (3, .int p2), (0, .ref p0), (1, .ref p1)], [.ref p1, .ref p0])) zq_258 zo_258 (by with_unfolding_all rfl) ?_
    replace hf := zf_b2e hf
    obtain ⟨v7, h8, hv, hf⟩ := hf
    obtain ⟨mj, hcl, hrun⟩ := tv_3 hv
    refine zv_c zq_258 zo_258 rfl rfl rfl rfl rfl (hcl _ _ _ _ _ _ rfl rfl rfl rfl) hrun ?_
    refine zv_p (k := 1) (f' := (62, [(4, .int v1), (3, .int p2), (0, .ref p0), (1, .ref p1)], [])) zq_258 zo_258 (by with_unfolding_all rfl) ?_
    cases hf
    exact zv_r zq_258 zo_258 rfl rfl rfl rfl rfl
set_option maxHeartbeats 1000000 in
def f_AbstractStringBuilder_initq2 (p0 : Nat) (p1 : Nat) (h : zx_H) : Option (Unit × zx_H) :=
  zf_b (zf_is 0 p1 h) fun _ =>
  zf_b2 (f_String_length p1 h) fun v1 h2 =>
  if (2147483631 : Int32) ≤ v1 then
    f_AbstractStringBuilder_initq2_24 p0 p1 (2147483647 : Int32) h2
  else
    f_AbstractStringBuilder_initq2_24 p0 p1 (v1 + (16 : Int32)) h2
set_option maxHeartbeats 4000000 in
set_option maxRecDepth 400000 in
theorem t_f_AbstractStringBuilder_initq2 {sc : (Nat × (Nat → Int32)) × Bool} {d : Nat} (p0 : Nat) (p1 : Nat) (h : zx_H) (r : Unit) (h' : zx_H) (hf : f_AbstractStringBuilder_initq2 p0 p1 h = some (r, h')) : zx_T sc (d + 7) 258 (0, [(0, .ref p0), (1, .ref p1)], []) h (zf_oV r) h' := by
  unfold f_AbstractStringBuilder_initq2 at hf
  refine zv_p (k := 1) (f' := (1, [(0, .ref p0), (1, .ref p1)], [.ref p0])) zq_258 zo_258 (by with_unfolding_all rfl) ?_
  refine zv_oi zq_258 zo_258 rfl rfl rfl ?_
  refine zv_p (k := 1) (f' := (5, [(0, .ref p0), (1, .ref p1)], [.ref p1])) zq_258 zo_258 (by with_unfolding_all rfl) ?_
  replace hf := zf_be hf
  obtain ⟨_, ho, hf⟩ := hf
  replace hf := zf_b2e hf
  obtain ⟨v1, h2, hv, hf⟩ := hf
  refine zv_c zq_258 zo_258 rfl rfl rfl rfl rfl (zv_cv rfl rfl rfl (zf_ise ho) rfl) (t_f_String_length _ _ _ _ hv) ?_
  refine zv_p (k := 2) (f' := (10, [(2, .int v1), (0, .ref p0), (1, .ref p1)], [.int v1])) zq_258 zo_258 (by with_unfolding_all rfl) ?_
  refine zv_ldi zq_258 zo_258 rfl rfl rfl ?_
  replace hf := zf_ite hf
  obtain ⟨hc, hf⟩ | ⟨hc, hf⟩ := hf
  · refine zv_brT (off := 10) (tt := 22) (r := []) zq_258 zo_258 hc rfl rfl rfl ?_
    refine zv_ldi zq_258 zo_258 rfl rfl rfl ?_
    refine zv_pick (lv' := [(0, .ref p0), (1, .ref p1)]) [0, 1] rfl rfl ?_
    exact t_f_AbstractStringBuilder_initq2_24 _ _ _ _ _ _ hf
  · refine zv_brF (off := 10) (tt := 22) (r := []) zq_258 zo_258 hc rfl rfl rfl ?_
    refine zv_p (k := 4) (f' := (24, [(2, .int v1), (0, .ref p0), (1, .ref p1)], [.int (v1 + (16 : Int32))])) zq_258 zo_258 (by with_unfolding_all rfl) ?_
    refine zv_pick (lv' := [(0, .ref p0), (1, .ref p1)]) [0, 1] rfl rfl ?_
    exact t_f_AbstractStringBuilder_initq2_24 _ _ _ _ _ _ hf
/-! StringBuilder.init (Ljava/lang/String;)V -/
noncomputable def zI_257 : zd_T := [[(0, .aload_n 0, 1), (1, .aload_n 1, 1), (2, .invokespecial 7, 3), (5, .return_, 1)]]
theorem zo_257 : zd_of 257 = some zI_257 := rfl
set_option maxRecDepth 100000 in
theorem zq_257 : zt_m[257]? = some (⟨"java/lang/StringBuilder", "<init>", "(Ljava/lang/String;)V"⟩, prog_32_method_3_code, 2, none, [], 1, 1, 0, 2, 99999, 0) := rfl
set_option maxHeartbeats 1000000 in
def f_StringBuilder_initq2 (p0 : Nat) (p1 : Nat) (h : zx_H) : Option (Unit × zx_H) :=
  zf_b2 (f_AbstractStringBuilder_initq2 p0 p1 h) fun _ h2 =>
  some ((), h2)
set_option maxHeartbeats 4000000 in
set_option maxRecDepth 400000 in
theorem t_f_StringBuilder_initq2 {sc : (Nat × (Nat → Int32)) × Bool} {d : Nat} (p0 : Nat) (p1 : Nat) (h : zx_H) (r : Unit) (h' : zx_H) (hf : f_StringBuilder_initq2 p0 p1 h = some (r, h')) : zx_T sc (d + 8) 257 (0, [(0, .ref p0), (1, .ref p1)], []) h (zf_oV r) h' := by
  unfold f_StringBuilder_initq2 at hf
  refine zv_p (k := 2) (f' := (2, [(0, .ref p0), (1, .ref p1)], [.ref p1, .ref p0])) zq_257 zo_257 (by with_unfolding_all rfl) ?_
  replace hf := zf_b2e hf
  obtain ⟨v1, h2, hv, hf⟩ := hf
  refine zv_c zq_257 zo_257 rfl rfl rfl rfl rfl rfl (t_f_AbstractStringBuilder_initq2 _ _ _ _ _ hv) ?_
  cases hf
  exact zv_r zq_257 zo_257 rfl rfl rfl rfl rfl
/-! Integer.stringSize (I)I -/
noncomputable def zI_168 : zd_T := [[(0, .iconst 1, 1), (1, .istore_n 1, 1), (2, .iload_n 0, 1), (3, .ifCond .lt 8, 3), (6, .iconst 0, 1), (7, .istore_n 1, 1), (8, .iload_n 0, 1), (9, .ineg, 1), (10, .istore_n 0, 1), (11, .bipush (-10), 2), (13, .istore_n 2, 1), (14, .iconst 1, 1), (15, .istore_n 3, 1), (16, .iload_n 3, 1), (17, .bipush 10, 2), (19, .if_icmp .ge 23, 3), (22, .iload_n 0, 1), (23, .iload_n 2, 1), (24, .if_icmp .le 7, 3), (27, .iload_n 3, 1), (28, .iload_n 1, 1), (29, .iadd, 1), (30, .ireturn, 1), (31, .bipush 10, 2)], [(33, .iload_n 2, 1), (34, .imul, 1), (35, .istore_n 2, 1), (36, .iinc 3 1, 3), (39, .goto (-23), 3), (42, .bipush 10, 2), (44, .iload_n 1, 1), (45, .iadd, 1), (46, .ireturn, 1)]]
theorem zo_168 : zd_of 168 = some zI_168 := rfl
set_option maxRecDepth 100000 in
theorem zq_168 : zt_m[168]? = some (⟨"java/lang/Integer", "stringSize", "(I)I"⟩, prog_26_method_13_code, 4, some (.int), [], 26, 1, 0, 1, 99999, 0) := rfl
set_option maxHeartbeats 1000000 in
def f_Integer_stringSize_16 : Nat → Int32 → Int32 → Int32 → Int32 → zx_H → Option (Int32 × zx_H)
  | 0, _, _, _, _, _ => none
  | n + 1, p0, p1, p2, p3, h =>
    if (10 : Int32) ≤ p3 then
      some (((10 : Int32) + p1), h)
    else
      if p0 ≤ p2 then
        (f_Integer_stringSize_16 n) p0 p1 ((10 : Int32) * p2) (p3 + (1 : Int32)) h
      else
        some ((p3 + p1), h)
set_option maxHeartbeats 4000000 in
set_option maxRecDepth 400000 in
theorem t_f_Integer_stringSize_16 {sc : (Nat × (Nat → Int32)) × Bool} {d : Nat} : ∀ (n : Nat) (p0 : Int32) (p1 : Int32) (p2 : Int32) (p3 : Int32) (h : zx_H) (r : Int32) (h' : zx_H), f_Integer_stringSize_16 n p0 p1 p2 p3 h = some (r, h') → zx_T sc d 168 (16, [(0, .int p0), (1, .int p1), (2, .int p2), (3, .int p3)], []) h (zf_oI r) h' := by
  intro n
  induction n with
  | zero => intro p0 p1 p2 p3 h r h' hf; cases hf
  | succ n ih =>
    intro p0 p1 p2 p3 h r h' hf
    unfold f_Integer_stringSize_16 at hf
    refine zv_p (k := 2) (f' := (19, [(0, .int p0), (1, .int p1), (2, .int p2), (3, .int p3)], [.int (10 : Int32), .int p3])) zq_168 zo_168 (by with_unfolding_all rfl) ?_
    replace hf := zf_ite hf
    obtain ⟨hc, hf⟩ | ⟨hc, hf⟩ := hf
    · refine zv_brT (off := 23) (tt := 42) (r := []) zq_168 zo_168 hc rfl rfl rfl ?_
      refine zv_p (k := 3) (f' := (46, [(0, .int p0), (1, .int p1), (2, .int p2), (3, .int p3)], [.int ((10 : Int32) + p1)])) zq_168 zo_168 (by with_unfolding_all rfl) ?_
      cases hf
      exact zv_rn zq_168 zo_168 rfl rfl
    · refine zv_brF (off := 23) (tt := 42) (r := []) zq_168 zo_168 hc rfl rfl rfl ?_
      refine zv_p (k := 2) (f' := (24, [(0, .int p0), (1, .int p1), (2, .int p2), (3, .int p3)], [.int p2, .int p0])) zq_168 zo_168 (by with_unfolding_all rfl) ?_
      replace hf := zf_ite hf
      obtain ⟨hc, hf⟩ | ⟨hc, hf⟩ := hf
      · refine zv_brT (off := 7) (tt := 31) (r := []) zq_168 zo_168 hc rfl rfl rfl ?_
        refine zv_p (k := 6) (f' := (16, [(3, .int (p3 + (1 : Int32))), (2, .int ((10 : Int32) * p2)), (0, .int p0), (1, .int p1)], [])) zq_168 zo_168 (by with_unfolding_all rfl) ?_
        refine zv_pick (lv' := [(0, .int p0), (1, .int p1), (2, .int ((10 : Int32) * p2)), (3, .int (p3 + (1 : Int32)))]) [0, 1, 2, 3] rfl rfl ?_
        exact ih _ _ _ _ _ _ _ hf
      · refine zv_brF (off := 7) (tt := 31) (r := []) zq_168 zo_168 hc rfl rfl rfl ?_
        refine zv_p (k := 3) (f' := (30, [(0, .int p0), (1, .int p1), (2, .int p2), (3, .int p3)], [.int (p3 + p1)])) zq_168 zo_168 (by with_unfolding_all rfl) ?_
        cases hf
        exact zv_rn zq_168 zo_168 rfl rfl
set_option maxHeartbeats 1000000 in
def f_Integer_stringSize (p0 : Int32) (h : zx_H) : Option (Int32 × zx_H) :=
  if p0 < 0 then
    f_Integer_stringSize_16 zF p0 (1 : Int32) (-10 : Int32) (1 : Int32) h
  else
    f_Integer_stringSize_16 zF (-p0) (0 : Int32) (-10 : Int32) (1 : Int32) h
set_option maxHeartbeats 4000000 in
set_option maxRecDepth 400000 in
theorem t_f_Integer_stringSize {sc : (Nat × (Nat → Int32)) × Bool} {d : Nat} (p0 : Int32) (h : zx_H) (r : Int32) (h' : zx_H) (hf : f_Integer_stringSize p0 h = some (r, h')) : zx_T sc d 168 (0, [(0, .int p0)], []) h (zf_oI r) h' := by
  unfold f_Integer_stringSize at hf
  refine zv_p (k := 3) (f' := (3, [(1, .int (1 : Int32)), (0, .int p0)], [.int p0])) zq_168 zo_168 (by with_unfolding_all rfl) ?_
  replace hf := zf_ite hf
  obtain ⟨hc, hf⟩ | ⟨hc, hf⟩ := hf
  · refine zv_brT (off := 8) (tt := 11) (r := []) zq_168 zo_168 hc rfl rfl rfl ?_
    refine zv_p (k := 4) (f' := (16, [(3, .int (1 : Int32)), (2, .int (-10 : Int32)), (1, .int (1 : Int32)), (0, .int p0)], [])) zq_168 zo_168 (by with_unfolding_all rfl) ?_
    refine zv_pick (lv' := [(0, .int p0), (1, .int (1 : Int32)), (2, .int (-10 : Int32)), (3, .int (1 : Int32))]) [0, 1, 2, 3] rfl rfl ?_
    exact t_f_Integer_stringSize_16 zF _ _ _ _ _ _ _ hf
  · refine zv_brF (off := 8) (tt := 11) (r := []) zq_168 zo_168 hc rfl rfl rfl ?_
    refine zv_p (k := 8) (f' := (15, [(2, .int (-10 : Int32)), (0, .int (-p0)), (1, .int (0 : Int32))], [.int (1 : Int32)])) zq_168 zo_168 (by with_unfolding_all rfl) ?_
    refine zv_p (k := 1) (f' := (16, [(3, .int (1 : Int32)), (2, .int (-10 : Int32)), (0, .int (-p0)), (1, .int (0 : Int32))], [])) zq_168 zo_168 (by with_unfolding_all rfl) ?_
    refine zv_pick (lv' := [(0, .int (-p0)), (1, .int (0 : Int32)), (2, .int (-10 : Int32)), (3, .int (1 : Int32))]) [0, 1, 2, 3] rfl rfl ?_
    exact t_f_Integer_stringSize_16 zF _ _ _ _ _ _ _ hf
/-! Integer.getChars (IIarr B)I -/
noncomputable def zI_169 : zd_T := [[(0, .iload_n 1, 1), (1, .istore 5, 2), (3, .iload_n 0, 1), (4, .ifCond .ge 7, 3), (7, .iconst 1, 1), (8, .goto 4, 3), (11, .iconst 0, 1), (12, .istore 6, 2), (14, .iload 6, 2), (16, .ifCond .ne 6, 3), (19, .iload_n 0, 1), (20, .ineg, 1), (21, .istore_n 0, 1), (22, .iload_n 0, 1), (23, .bipush (-100), 2), (25, .if_icmp .gt 47, 3), (28, .iload_n 0, 1), (29, .bipush 100, 2), (31, .idiv, 1)], [(32, .istore_n 3, 1), (33, .iload_n 3, 1), (34, .bipush 100, 2), (36, .imul, 1), (37, .iload_n 0, 1), (38, .isub, 1), (39, .istore 4, 2), (41, .iload_n 3, 1), (42, .istore_n 0, 1), (43, .aload_n 2, 1), (44, .iinc 5 (-1), 3), (47, .iload 5, 2), (49, .getstatic 83, 3), (52, .iload 4, 2), (54, .baload, 1), (55, .bastore, 1), (56, .aload_n 2, 1), (57, .iinc 5 (-1), 3), (60, .iload 5, 2), (62, .getstatic 87, 3)], [(65, .iload 4, 2), (67, .baload, 1), (68, .bastore, 1), (69, .goto (-47), 3), (72, .aload_n 2, 1), (73, .iinc 5 (-1), 3), (76, .iload 5, 2), (78, .getstatic 83, 3), (81, .iload_n 0, 1), (82, .ineg, 1), (83, .baload, 1), (84, .bastore, 1), (85, .iload_n 0, 1), (86, .bipush (-9), 2), (88, .if_icmp .ge 16, 3), (91, .aload_n 2, 1), (92, .iinc 5 (-1), 3), (95, .iload 5, 2)], [(97, .getstatic 87, 3), (100, .iload_n 0, 1), (101, .ineg, 1), (102, .baload, 1), (103, .bastore, 1), (104, .iload 6, 2), (106, .ifCond .eq 12, 3), (109, .aload_n 2, 1), (110, .iinc 5 (-1), 3), (113, .iload 5, 2), (115, .bipush 45, 2), (117, .bastore, 1), (118, .iload 5, 2), (120, .ireturn, 1)]]
theorem zo_169 : zd_of 169 = some zI_169 := rfl
set_option maxRecDepth 100000 in
theorem zq_169 : zt_m[169]? = some (⟨"java/lang/Integer", "getChars", "(II[B)I"⟩, prog_26_method_12_code, 7, some (.int), [], 26, 3, 0, 1, 99999, 0) := rfl
set_option maxHeartbeats 1000000 in
def f_Integer_getChars_104 (p0 : Nat) (p1 : Int32) (p2 : Int32) (h : zx_H) : Option (Int32 × zx_H) :=
  if p2 = 0 then
    some (p1, h)
  else
    zf_b (zf_stB p0 (p1 + (-1 : Int32)) (45 : Int32) h) fun h1 =>
    some ((p1 + (-1 : Int32)), h1)
set_option maxHeartbeats 4000000 in
set_option maxRecDepth 400000 in
theorem t_f_Integer_getChars_104 {sc : (Nat × (Nat → Int32)) × Bool} {d : Nat} (p0 : Nat) (p1 : Int32) (p2 : Int32) (h : zx_H) (r : Int32) (h' : zx_H) (hf : f_Integer_getChars_104 p0 p1 p2 h = some (r, h')) : zx_T sc d 169 (104, [(2, .ref p0), (5, .int p1), (6, .int p2)], []) h (zf_oI r) h' := by
  unfold f_Integer_getChars_104 at hf
  refine zv_p (k := 1) (f' := (106, [(2, .ref p0), (5, .int p1), (6, .int p2)], [.int p2])) zq_169 zo_169 (by with_unfolding_all rfl) ?_
  replace hf := zf_ite hf
  obtain ⟨hc, hf⟩ | ⟨hc, hf⟩ := hf
  · refine zv_brT (off := 12) (tt := 118) (r := []) zq_169 zo_169 hc rfl rfl rfl ?_
    refine zv_p (k := 1) (f' := (120, [(2, .ref p0), (5, .int p1), (6, .int p2)], [.int p1])) zq_169 zo_169 (by with_unfolding_all rfl) ?_
    cases hf
    exact zv_rn zq_169 zo_169 rfl rfl
  · refine zv_brF (off := 12) (tt := 118) (r := []) zq_169 zo_169 hc rfl rfl rfl ?_
    refine zv_p (k := 4) (f' := (117, [(5, .int (p1 + (-1 : Int32))), (2, .ref p0), (6, .int p2)], [.int (45 : Int32), .int (p1 + (-1 : Int32)), .ref p0])) zq_169 zo_169 (by with_unfolding_all rfl) ?_
    replace hf := zf_be hf
    obtain ⟨h1, hv, hf⟩ := hf
    refine zv_stB zq_169 zo_169 rfl hv ?_
    refine zv_p (k := 1) (f' := (120, [(5, .int (p1 + (-1 : Int32))), (2, .ref p0), (6, .int p2)], [.int (p1 + (-1 : Int32))])) zq_169 zo_169 (by with_unfolding_all rfl) ?_
    simp only [Option.some.injEq, Prod.mk.injEq] at hf
    obtain ⟨rfl, rfl⟩ := hf
    exact zv_rn zq_169 zo_169 rfl rfl
