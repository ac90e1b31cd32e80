set_option maxHeartbeats 1000000 in
def f_ColumnVaultLaw_text (p0 : Nat) (h : zx_H) : Option (Nat × zx_H) :=
  zf_b2 (zf_new 1 h) fun q1 h2 =>
  zf_b2 (f_StringBuilder_init q1 h2) fun _ h4 =>
  zf_b2 (f_ColumnVaultLaw_draw p0 (4 : Int32) h4) fun v5 h6 =>
  if ¬ v5 = 0 then
    zf_b2 (f_ColumnVaultLaw_draw p0 (2 : Int32) h6) fun v7 h8 =>
    f_ColumnVaultLaw_text_35 zF p0 q1 ((1 : Int32) + v7) h8
  else
    zf_b2 (f_ColumnVaultLaw_draw p0 (7 : Int32) h6) fun v9 h10 =>
    f_ColumnVaultLaw_text_35 zF p0 q1 ((1 : Int32) + v9) h10
set_option maxHeartbeats 4000000 in
set_option maxRecDepth 400000 in
theorem t_f_ColumnVaultLaw_text {sc : (Nat × (Nat → Int32)) × Bool} {d : Nat} (p0 : Nat) (h : zx_H) (r : Nat) (h' : zx_H) (hf : f_ColumnVaultLaw_text p0 h = some (r, h')) : zx_T sc (d + 6) 130 (0, [(0, .ref p0)], []) h (zf_oA r) h' := by
  unfold f_ColumnVaultLaw_text at hf
  replace hf := zf_b2e hf
  obtain ⟨q1, h2, hv, hf⟩ := hf
  refine zv_new zq_130 zo_130 rfl rfl rfl hv ?_
  refine zv_p (k := 1) (f' := (4, [(0, .ref p0)], [.ref q1, .ref q1])) zq_130 zo_130 (by with_unfolding_all rfl) ?_
  replace hf := zf_b2e hf
  obtain ⟨v3, h4, hv, hf⟩ := hf
  refine zv_c zq_130 zo_130 rfl rfl rfl rfl rfl rfl (t_f_StringBuilder_init _ _ _ _ hv) ?_
  refine zv_p (k := 3) (f' := (10, [(1, .ref q1), (0, .ref p0)], [.int (4 : Int32), .ref p0])) zq_130 zo_130 (by with_unfolding_all rfl) ?_
  replace hf := zf_b2e hf
  obtain ⟨v5, h6, hv, hf⟩ := hf
  refine zv_c zq_130 zo_130 rfl rfl rfl rfl rfl rfl (t_f_ColumnVaultLaw_draw _ _ _ _ _ hv) ?_
  replace hf := zf_ite hf
  obtain ⟨hc, hf⟩ | ⟨hc, hf⟩ := hf
  · refine zv_brT (off := 14) (tt := 27) (r := []) zq_130 zo_130 hc rfl rfl rfl ?_
    refine zv_p (k := 3) (f' := (30, [(1, .ref q1), (0, .ref p0)], [.int (2 : Int32), .ref p0, .int (1 : Int32)])) zq_130 zo_130 (by with_unfolding_all rfl) ?_
    replace hf := zf_b2e hf
    obtain ⟨v7, h8, hv, hf⟩ := hf
    refine zv_c zq_130 zo_130 rfl rfl rfl rfl rfl rfl (t_f_ColumnVaultLaw_draw _ _ _ _ _ hv) ?_
    refine zv_p (k := 2) (f' := (35, [(2, .int ((1 : Int32) + v7)), (1, .ref q1), (0, .ref p0)], [])) zq_130 zo_130 (by with_unfolding_all rfl) ?_
    refine zv_pick (lv' := [(0, .ref p0), (1, .ref q1), (2, .int ((1 : Int32) + v7))]) [0, 1, 2] rfl rfl ?_
    exact t_f_ColumnVaultLaw_text_35 zF _ _ _ _ _ _ hf
  · refine zv_brF (off := 14) (tt := 27) (r := []) zq_130 zo_130 hc rfl rfl rfl ?_
    refine zv_p (k := 3) (f' := (20, [(1, .ref q1), (0, .ref p0)], [.int (7 : Int32), .ref p0, .int (1 : Int32)])) zq_130 zo_130 (by with_unfolding_all rfl) ?_
    replace hf := zf_b2e hf
    obtain ⟨v9, h10, hv, hf⟩ := hf
    refine zv_c zq_130 zo_130 rfl rfl rfl rfl rfl rfl (t_f_ColumnVaultLaw_draw _ _ _ _ _ hv) ?_
    refine zv_p (k := 3) (f' := (35, [(2, .int ((1 : Int32) + v9)), (1, .ref q1), (0, .ref p0)], [])) zq_130 zo_130 (by with_unfolding_all rfl) ?_
    refine zv_pick (lv' := [(0, .ref p0), (1, .ref q1), (2, .int ((1 : Int32) + v9))]) [0, 1, 2] rfl rfl ?_
    exact t_f_ColumnVaultLaw_text_35 zF _ _ _ _ _ _ hf
/-! String.coder ()B -/
noncomputable def zI_180 : zd_T := [[(0, .getstatic 38, 3), (3, .ifCond .eq 10, 3), (6, .aload_n 0, 1), (7, .getfield 15, 3), (10, .goto 4, 3), (13, .iconst 1, 1), (14, .ireturn, 1)]]
theorem zo_180 : zd_of 180 = some zI_180 := rfl
set_option maxRecDepth 100000 in
theorem zq_180 : zt_m[180]? = some (⟨"java/lang/String", "coder", "()B"⟩, prog_31_method_152_code, 1, some (.byte), [], 0, 0, 0, 0, 0, 0) := rfl
set_option maxHeartbeats 1000000 in
def f_String_coder (p0 : Nat) (h : zx_H) : Option (Int32 × zx_H) :=
  if (1 : Int32) = 0 then
    some ((1 : Int32), h)
  else
    zf_b (zfx_I 0 1 p0 h) fun v1 =>
    if narrow .byte (.int v1) = .int v1 then some (v1, h) else none
set_option maxHeartbeats 4000000 in
set_option maxRecDepth 400000 in
theorem t_f_String_coder {sc : (Nat × (Nat → Int32)) × Bool} {d : Nat} (p0 : Nat) (h : zx_H) (r : Int32) (h' : zx_H) (hf : f_String_coder p0 h = some (r, h')) : zx_T sc d 180 (0, [(0, .ref p0)], []) h (zf_oI r) h' := by
  unfold f_String_coder at hf
  refine zv_gs zq_180 zo_180 rfl rfl rfl ?_
  replace hf := zf_ite hf
  obtain ⟨hc, hf⟩ | ⟨hc, hf⟩ := hf
  · refine zv_brT (off := 10) (tt := 13) (r := []) zq_180 zo_180 hc rfl rfl rfl ?_
    refine zv_p (k := 1) (f' := (14, [(0, .ref p0)], [.int (1 : Int32)])) zq_180 zo_180 (by with_unfolding_all rfl) ?_
    cases hf
    exact zv_rn zq_180 zo_180 rfl rfl
  · refine zv_brF (off := 10) (tt := 13) (r := []) zq_180 zo_180 hc rfl rfl rfl ?_
    refine zv_p (k := 1) (f' := (7, [(0, .ref p0)], [.ref p0])) zq_180 zo_180 (by with_unfolding_all rfl) ?_
    replace hf := zf_be hf
    obtain ⟨v1, hv, hf⟩ := hf
    refine zv_gfx zq_180 zo_180 rfl rfl (zfx_Ie hv) ?_
    refine zv_p (k := 1) (f' := (14, [(0, .ref p0)], [.int v1])) zq_180 zo_180 (by with_unfolding_all rfl) ?_
    replace hf := zf_ite hf
    obtain ⟨hc, hf⟩ | ⟨hc, hf⟩ := hf
    · cases hf; exact zv_rn zq_180 zo_180 rfl hc
    · cases hf
/-! String.length ()I -/
noncomputable def zI_179 : zd_T := [[(0, .aload_n 0, 1), (1, .getfield 9, 3), (4, .arraylength, 1), (5, .aload_n 0, 1), (6, .invokevirtual 335, 3), (9, .ishr, 1), (10, .ireturn, 1)]]
theorem zo_179 : zd_of 179 = some zI_179 := rfl
set_option maxRecDepth 100000 in
theorem zq_179 : zt_m[179]? = some (⟨"java/lang/String", "length", "()I"⟩, prog_31_method_54_code, 1, some (.int), [], 0, 0, 0, 0, 0, 0) := rfl
set_option maxHeartbeats 1000000 in
def f_String_length (p0 : Nat) (h : zx_H) : Option (Int32 × zx_H) :=
  zf_b (zfx_A 0 0 p0 h) fun v1 =>
  zf_b (zf_len v1 h) fun v2 =>
  zf_b (zf_is 0 p0 h) fun _ =>
  zf_b2 (f_String_coder p0 h) fun v3 h4 =>
  some ((v2 >>> (v3 &&& 31)), h4)
set_option maxHeartbeats 4000000 in
set_option maxRecDepth 400000 in
theorem t_f_String_length {sc : (Nat × (Nat → Int32)) × Bool} {d : Nat} (p0 : Nat) (h : zx_H) (r : Int32) (h' : zx_H) (hf : f_String_length p0 h = some (r, h')) : zx_T sc (d + 1) 179 (0, [(0, .ref p0)], []) h (zf_oI r) h' := by
  unfold f_String_length at hf
  refine zv_p (k := 1) (f' := (1, [(0, .ref p0)], [.ref p0])) zq_179 zo_179 (by with_unfolding_all rfl) ?_
  replace hf := zf_be hf
  obtain ⟨v1, hv, hf⟩ := hf
  refine zv_gfx zq_179 zo_179 rfl rfl (zfx_Ae hv) ?_
  replace hf := zf_be hf
  obtain ⟨v2, hv, hf⟩ := hf
  refine zv_len zq_179 zo_179 rfl hv ?_
  refine zv_p (k := 1) (f' := (6, [(0, .ref p0)], [.ref p0, .int v2])) zq_179 zo_179 (by with_unfolding_all rfl) ?_
  replace hf := zf_be hf
  obtain ⟨_, ho, hf⟩ := hf
  replace hf := zf_b2e hf
  obtain ⟨v3, h4, hv, hf⟩ := hf
  refine zv_c zq_179 zo_179 rfl rfl rfl rfl rfl (zv_cv rfl rfl rfl (zf_ise ho) rfl) (t_f_String_coder _ _ _ _ hv) ?_
  refine zv_p (k := 1) (f' := (10, [(0, .ref p0)], [.int (v2 >>> (v3 &&& 31))])) zq_179 zo_179 (by with_unfolding_all rfl) ?_
  cases hf
  exact zv_rn zq_179 zo_179 rfl rfl
def fv_4 (p0 : Nat) (h : zx_H) : Option (Int32 × zx_H) := zf_kd p0 h fun ci =>
  if ci = 0 then f_String_length p0 h
  else if ci = 1 then f_StringBuilder_length p0 h
  else none
theorem tv_4 {sc : (Nat × (Nat → Int32)) × Bool} {d : Nat} {p0 : Nat} {h : zx_H} {r : Int32} {h' : zx_H} (hv : fv_4 p0 h = some (r, h')) : ∃ mj, (∀ (oc i y w cnt : Nat) (st rest : List Value), zx_pool oc i = some (11, 4, y, w) → st.drop 0 = .ref p0 :: rest → (st.take 0).reverse = [] → Nat.ble (zx_cs rest) 8 = true → zx_c oc st h (.invokeinterface i cnt) 5 = some (mj, .ref p0 :: [], rest)) ∧ zx_T sc (d + 1) mj (0, [(0, .ref p0)], []) h (zf_oI r) h' := by
  unfold fv_4 at hv
  obtain ⟨ci, hk, hv⟩ := zf_kde hv
  obtain ⟨rfl, hv⟩ | ⟨-, hv⟩ := zf_ite hv
  · refine ⟨179, fun oc i y w cnt st rest h1 h2 h3 h4 => ?_, t_f_String_length _ _ _ _ hv⟩
    have h5 := zv_c11 (mj := 179) (npj := 0) (cnt := cnt) h1 rfl rfl rfl h2 hk (by rw [h4, h3]; rfl)
    rw [h3] at h5
    exact h5
  obtain ⟨rfl, hv⟩ | ⟨-, hv⟩ := zf_ite hv
  · refine ⟨161, fun oc i y w cnt st rest h1 h2 h3 h4 => ?_, t_f_StringBuilder_length _ _ _ _ hv⟩
    have h5 := zv_c11 (mj := 161) (npj := 0) (cnt := cnt) h1 rfl rfl rfl h2 hk (by rw [h4, h3]; rfl)
    rw [h3] at h5
    exact h5
  · cases hv
/-! String.isLatin1 ()Z -/
noncomputable def zI_190 : zd_T := [[(0, .getstatic 38, 3), (3, .ifCond .eq 14, 3), (6, .aload_n 0, 1), (7, .getfield 15, 3), (10, .ifCond .ne 7, 3), (13, .iconst 1, 1), (14, .goto 4, 3), (17, .iconst 0, 1), (18, .ireturn, 1)]]
theorem zo_190 : zd_of 190 = some zI_190 := rfl
set_option maxRecDepth 100000 in
theorem zq_190 : zt_m[190]? = some (⟨"java/lang/String", "isLatin1", "()Z"⟩, prog_31_method_154_code, 1, some (.boolean), [], 0, 0, 0, 0, 0, 0) := rfl
set_option maxHeartbeats 1000000 in
def f_String_isLatin1 (p0 : Nat) (h : zx_H) : Option (Int32 × zx_H) :=
  if (1 : Int32) = 0 then
    some ((0 : Int32), h)
  else
    zf_b (zfx_I 0 1 p0 h) fun v1 =>
    if ¬ v1 = 0 then
      some ((0 : Int32), h)
    else
      some ((1 : Int32), h)
set_option maxHeartbeats 4000000 in
set_option maxRecDepth 400000 in
theorem t_f_String_isLatin1 {sc : (Nat × (Nat → Int32)) × Bool} {d : Nat} (p0 : Nat) (h : zx_H) (r : Int32) (h' : zx_H) (hf : f_String_isLatin1 p0 h = some (r, h')) : zx_T sc d 190 (0, [(0, .ref p0)], []) h (zf_oI r) h' := by
  unfold f_String_isLatin1 at hf
  refine zv_gs zq_190 zo_190 rfl rfl rfl ?_
  replace hf := zf_ite hf
  obtain ⟨hc, hf⟩ | ⟨hc, hf⟩ := hf
  · refine zv_brT (off := 14) (tt := 17) (r := []) zq_190 zo_190 hc rfl rfl rfl ?_
    refine zv_p (k := 1) (f' := (18, [(0, .ref p0)], [.int (0 : Int32)])) zq_190 zo_190 (by with_unfolding_all rfl) ?_
    cases hf
    exact zv_rn zq_190 zo_190 rfl rfl
  · refine zv_brF (off := 14) (tt := 17) (r := []) zq_190 zo_190 hc rfl rfl rfl ?_
    refine zv_p (k := 1) (f' := (7, [(0, .ref p0)], [.ref p0])) zq_190 zo_190 (by with_unfolding_all rfl) ?_
    replace hf := zf_be hf
    obtain ⟨v1, hv, hf⟩ := hf
    refine zv_gfx zq_190 zo_190 rfl rfl (zfx_Ie hv) ?_
    replace hf := zf_ite hf
    obtain ⟨hc, hf⟩ | ⟨hc, hf⟩ := hf
    · refine zv_brT (off := 7) (tt := 17) (r := []) zq_190 zo_190 hc rfl rfl rfl ?_
      refine zv_p (k := 1) (f' := (18, [(0, .ref p0)], [.int (0 : Int32)])) zq_190 zo_190 (by with_unfolding_all rfl) ?_
      cases hf
      exact zv_rn zq_190 zo_190 rfl rfl
    · refine zv_brF (off := 7) (tt := 17) (r := []) zq_190 zo_190 hc rfl rfl rfl ?_
      refine zv_p (k := 2) (f' := (18, [(0, .ref p0)], [.int (1 : Int32)])) zq_190 zo_190 (by with_unfolding_all rfl) ?_
      cases hf
      exact zv_rn zq_190 zo_190 rfl rfl
/-! Preconditions.checkIndex (IILjava/util/function/BiFunction;)I -/
noncomputable def zI_156 : zd_T := [[(0, .iload_n 0, 1), (1, .ifCond .lt 8, 3), (4, .iload_n 0, 1), (5, .iload_n 1, 1), (6, .if_icmp .lt 10, 3), (9, .aload_n 2, 1), (10, .iload_n 0, 1), (11, .iload_n 1, 1), (12, .invokestatic 95, 3), (15, .athrow, 1), (16, .iload_n 0, 1), (17, .ireturn, 1)]]
theorem zo_156 : zd_of 156 = some zI_156 := rfl
set_option maxRecDepth 100000 in
theorem zq_156 : zt_m[156]? = some (⟨"jdk/internal/util/Preconditions", "checkIndex", "(IILjava/util/function/BiFunction;)I"⟩, prog_44_method_11_code, 3, some (.int), [], 25, 3, 0, 1, 99999, 0) := rfl
set_option maxHeartbeats 1000000 in
def f_Preconditions_checkIndex (p0 : Int32) (p1 : Int32) (h : zx_H) : Option (Int32 × zx_H) :=
  if p0 < 0 then
    none
  else
    if p0 < p1 then
      some (p0, h)
    else
      none
set_option maxHeartbeats 4000000 in
set_option maxRecDepth 400000 in
theorem t_f_Preconditions_checkIndex {sc : (Nat × (Nat → Int32)) × Bool} {d : Nat} {y900 : Option Nat} (p0 : Int32) (p1 : Int32) (h : zx_H) (r : Int32) (h' : zx_H) (hf : f_Preconditions_checkIndex p0 p1 h = some (r, h')) : zx_T sc d 156 (0, [(0, .int p0), (1, .int p1), (2, zx_rf y900)], []) h (zf_oI r) h' := by
  unfold f_Preconditions_checkIndex at hf
  refine zv_p (k := 1) (f' := (1, [(0, .int p0), (1, .int p1), (2, zx_rf y900)], [.int p0])) zq_156 zo_156 (by cases y900 <;> with_unfolding_all rfl) ?_
  replace hf := zf_ite hf
  obtain ⟨hc, hf⟩ | ⟨hc, hf⟩ := hf
  · refine zv_brT (off := 8) (tt := 9) (r := []) zq_156 zo_156 hc rfl rfl rfl ?_
    cases hf
  · refine zv_brF (off := 8) (tt := 9) (r := []) zq_156 zo_156 hc rfl rfl rfl ?_
    refine zv_p (k := 2) (f' := (6, [(0, .int p0), (1, .int p1), (2, zx_rf y900)], [.int p1, .int p0])) zq_156 zo_156 (by cases y900 <;> with_unfolding_all rfl) ?_
    replace hf := zf_ite hf
    obtain ⟨hc, hf⟩ | ⟨hc, hf⟩ := hf
    · refine zv_brT (off := 10) (tt := 16) (r := []) zq_156 zo_156 hc rfl rfl rfl ?_
      refine zv_p (k := 1) (f' := (17, [(0, .int p0), (1, .int p1), (2, zx_rf y900)], [.int p0])) zq_156 zo_156 (by cases y900 <;> with_unfolding_all rfl) ?_
      cases hf
      exact zv_rn zq_156 zo_156 rfl rfl
    · refine zv_brF (off := 10) (tt := 16) (r := []) zq_156 zo_156 hc rfl rfl rfl ?_
      cases hf
/-! String.checkIndex (II)V -/
noncomputable def zI_155 : zd_T := [[(0, .iload_n 0, 1), (1, .iload_n 1, 1), (2, .getstatic 1053, 3), (5, .invokestatic 1059, 3), (8, .pop, 1), (9, .return_, 1)]]
theorem zo_155 : zd_of 155 = some zI_155 := rfl
set_option maxRecDepth 100000 in
theorem zq_155 : zt_m[155]? = some (⟨"java/lang/String", "checkIndex", "(II)V"⟩, prog_31_method_155_code, 2, none, [], 0, 2, 0, 1, 99999, 0) := rfl
set_option maxHeartbeats 1000000 in
def f_String_checkIndex (p0 : Int32) (p1 : Int32) (h : zx_H) : Option (Unit × zx_H) :=
  zf_b2 (f_Preconditions_checkIndex p0 p1 h) fun v2 h3 =>
  some ((), h3)
set_option maxHeartbeats 4000000 in
set_option maxRecDepth 400000 in
theorem t_f_String_checkIndex {sc : (Nat × (Nat → Int32)) × Bool} {d : Nat} (p0 : Int32) (p1 : Int32) (h : zx_H) (r : Unit) (h' : zx_H) (hf : f_String_checkIndex p0 p1 h = some (r, h')) : zx_T sc (d + 1) 155 (0, [(0, .int p0), (1, .int p1)], []) h (zf_oV r) h' := by
  unfold f_String_checkIndex at hf
  refine zv_p (k := 2) (f' := (2, [(0, .int p0), (1, .int p1)], [.int p1, .int p0])) zq_155 zo_155 (by with_unfolding_all rfl) ?_
  obtain ⟨y1, hy⟩ := zf_fme sc.2
  refine zv_gs zq_155 zo_155 rfl rfl hy ?_
  replace hf := zf_b2e hf
  obtain ⟨v2, h3, hv, hf⟩ := hf
  refine zv_c zq_155 zo_155 rfl (by cases y1 <;> rfl) (by cases y1 <;> rfl) (by cases y1 <;> rfl) (by cases y1 <;> rfl) (show zx_c _ _ _ _ _ = some (156, [.int p0, .int p1, zx_rf y1], []) from by cases y1 <;> rfl) (t_f_Preconditions_checkIndex _ _ _ _ _ hv) ?_
  refine zv_p (k := 1) (f' := (9, [(0, .int p0), (1, .int p1)], [])) zq_155 zo_155 (by with_unfolding_all rfl) ?_
  cases hf
  exact zv_r zq_155 zo_155 rfl rfl rfl rfl rfl
/-! StringLatin1.charAt (arr BI)C -/
noncomputable def zI_191 : zd_T := [[(0, .iload_n 1, 1), (1, .aload_n 0, 1), (2, .arraylength, 1), (3, .invokestatic 9, 3), (6, .aload_n 0, 1), (7, .iload_n 1, 1), (8, .baload, 1), (9, .sipush 255, 3), (12, .iand, 1), (13, .i2c, 1), (14, .ireturn, 1)]]
theorem zo_191 : zd_of 191 = some zI_191 := rfl
set_option maxRecDepth 100000 in
theorem zq_191 : zt_m[191]? = some (⟨"java/lang/StringLatin1", "charAt", "([BI)C"⟩, prog_33_method_2_code, 2, some (.char), [], 24, 2, 0, 1, 99999, 0) := rfl
set_option maxHeartbeats 1000000 in
def f_StringLatin1_charAt (p0 : Nat) (p1 : Int32) (h : zx_H) : Option (Int32 × zx_H) :=
  zf_b (zf_len p0 h) fun v1 =>
  zf_b2 (f_String_checkIndex p1 v1 h) fun _ h3 =>
  zf_b (zf_ldB p0 p1 h3) fun v4 =>
  if narrow .char (.int ((((v4 &&& (255 : Int32))).toUInt32 % 65536).toInt32)) = .int ((((v4 &&& (255 : Int32))).toUInt32 % 65536).toInt32) then some ((((v4 &&& (255 : Int32))).toUInt32 % 65536).toInt32, h3) else none
set_option maxHeartbeats 4000000 in
set_option maxRecDepth 400000 in
theorem t_f_StringLatin1_charAt {sc : (Nat × (Nat → Int32)) × Bool} {d : Nat} (p0 : Nat) (p1 : Int32) (h : zx_H) (r : Int32) (h' : zx_H) (hf : f_StringLatin1_charAt p0 p1 h = some (r, h')) : zx_T sc (d + 2) 191 (0, [(0, .ref p0), (1, .int p1)], []) h (zf_oI r) h' := by
  unfold f_StringLatin1_charAt at hf
  refine zv_p (k := 2) (f' := (2, [(0, .ref p0), (1, .int p1)], [.ref p0, .int p1])) zq_191 zo_191 (by with_unfolding_all rfl) ?_
  replace hf := zf_be hf
  obtain ⟨v1, hv, hf⟩ := hf
  refine zv_len zq_191 zo_191 rfl hv ?_
  replace hf := zf_b2e hf
  obtain ⟨v2, h3, hv, hf⟩ := hf
  refine zv_c zq_191 zo_191 rfl rfl rfl rfl rfl rfl (t_f_String_checkIndex _ _ _ _ _ hv) ?_
  refine zv_p (k := 2) (f' := (8, [(0, .ref p0), (1, .int p1)], [.int p1, .ref p0])) zq_191 zo_191 (by with_unfolding_all rfl) ?_
  replace hf := zf_be hf
  obtain ⟨v4, hv, hf⟩ := hf
  refine zv_ldB zq_191 zo_191 rfl hv ?_
  refine zv_p (k := 3) (f' := (14, [(0, .ref p0), (1, .int p1)], [.int (((v4 &&& (255 : Int32))).toUInt32 % 65536).toInt32])) zq_191 zo_191 (by with_unfolding_all rfl) ?_
  replace hf := zf_ite hf
  obtain ⟨hc, hf⟩ | ⟨hc, hf⟩ := hf
  · cases hf; exact zv_rn zq_191 zo_191 rfl hc
  · cases hf
/-! String.charAt (I)C -/
noncomputable def zI_189 : zd_T := [[(0, .aload_n 0, 1), (1, .invokevirtual 492, 3), (4, .ifCond .eq 12, 3), (7, .aload_n 0, 1), (8, .getfield 9, 3), (11, .iload_n 1, 1), (12, .invokestatic 495, 3), (15, .ireturn, 1), (16, .aload_n 0, 1), (17, .getfield 9, 3), (20, .iload_n 1, 1), (21, .invokestatic 498, 3), (24, .ireturn, 1)]]
theorem zo_189 : zd_of 189 = some zI_189 := rfl
set_option maxRecDepth 100000 in
theorem zq_189 : zt_m[189]? = some (⟨"java/lang/String", "charAt", "(I)C"⟩, prog_31_method_56_code, 2, some (.char), [], 0, 1, 0, 0, 0, 0) := rfl
set_option maxHeartbeats 1000000 in
def f_String_charAt (p0 : Nat) (p1 : Int32) (h : zx_H) : Option (Int32 × zx_H) :=
  zf_b (zf_is 0 p0 h) fun _ =>
  zf_b2 (f_String_isLatin1 p0 h) fun v1 h2 =>
  if v1 = 0 then
    zf_b (zfx_A 0 0 p0 h2) fun v3 =>
    none
  else
    zf_b (zfx_A 0 0 p0 h2) fun v4 =>
    zf_b2 (f_StringLatin1_charAt v4 p1 h2) fun v5 h6 =>
    if narrow .char (.int v5) = .int v5 then some (v5, h6) else none
set_option maxHeartbeats 4000000 in
set_option maxRecDepth 400000 in
theorem t_f_String_charAt {sc : (Nat × (Nat → Int32)) × Bool} {d : Nat} (p0 : Nat) (p1 : Int32) (h : zx_H) (r : Int32) (h' : zx_H) (hf : f_String_charAt p0 p1 h = some (r, h')) : zx_T sc (d + 3) 189 (0, [(0, .ref p0), (1, .int p1)], []) h (zf_oI r) h' := by
  unfold f_String_charAt at hf
  refine zv_p (k := 1) (f' := (1, [(0, .ref p0), (1, .int p1)], [.ref p0])) zq_189 zo_189 (by with_unfolding_all rfl) ?_
  replace hf := zf_be hf
  obtain ⟨_, ho, hf⟩ := hf
  replace hf := zf_b2e hf
  obtain ⟨v1, h2, hv, hf⟩ := hf
  refine zv_c zq_189 zo_189 rfl rfl rfl rfl rfl (zv_cv rfl rfl rfl (zf_ise ho) rfl) (t_f_String_isLatin1 _ _ _ _ hv) ?_
  replace hf := zf_ite hf
  obtain ⟨hc, hf⟩ | ⟨hc, hf⟩ := hf
  · refine zv_brT (off := 12) (tt := 16) (r := []) zq_189 zo_189 hc rfl rfl rfl ?_
    refine zv_p (k := 1) (f' := (17, [(0, .ref p0), (1, .int p1)], [.ref p0])) zq_189 zo_189 (by with_unfolding_all rfl) ?_
    replace hf := zf_be hf
    obtain ⟨v3, hv, hf⟩ := hf
    refine zv_gfx zq_189 zo_189 rfl rfl (zfx_Ae hv) ?_
    refine zv_p (k := 1) (f' := (21, [(0, .ref p0), (1, .int p1)], [.int p1, .ref v3])) zq_189 zo_189 (by with_unfolding_all rfl) ?_
    cases hf
  · refine zv_brF (off := 12) (tt := 16) (r := []) zq_189 zo_189 hc rfl rfl rfl ?_
    refine zv_p (k := 1) (f' := (8, [(0, .ref p0), (1, .int p1)], [.ref p0])) zq_189 zo_189 (by with_unfolding_all rfl) ?_
    replace hf := zf_be hf
    obtain ⟨v4, hv, hf⟩ := hf
    refine zv_gfx zq_189 zo_189 rfl rfl (zfx_Ae hv) ?_
    refine zv_p (k := 1) (f' := (12, [(0, .ref p0), (1, .int p1)], [.int p1, .ref v4])) zq_189 zo_189 (by with_unfolding_all rfl) ?_
    replace hf := zf_b2e hf
    obtain ⟨v5, h6, hv, hf⟩ := hf
    refine zv_c zq_189 zo_189 rfl rfl rfl rfl rfl rfl (t_f_StringLatin1_charAt _ _ _ _ _ hv) ?_
    replace hf := zf_ite hf
    obtain ⟨hc, hf⟩ | ⟨hc, hf⟩ := hf
    · cases hf; exact zv_rn zq_189 zo_189 rfl hc
    · cases hf
/-! ColumnVaultLaw.code (Ljava/lang/String;)J -/
noncomputable def zI_188 : zd_T := [[(0, .lconst 0, 1), (1, .lstore_n 1, 1), (2, .iconst 0, 1), (3, .istore_n 3, 1), (4, .iload_n 3, 1), (5, .aload_n 0, 1), (6, .invokevirtual 30, 3), (9, .if_icmp .ge 22, 3), (12, .ldc2_w 36, 3), (15, .lload_n 1, 1), (16, .lmul, 1), (17, .aload_n 0, 1), (18, .iload_n 3, 1), (19, .invokevirtual 38, 3), (22, .i2l, 1), (23, .ladd, 1), (24, .lstore_n 1, 1), (25, .iinc 3 1, 3), (28, .goto (-24), 3), (31, .lload_n 1, 1)], [(32, .lreturn, 1)]]
theorem zo_188 : zd_of 188 = some zI_188 := rfl
set_option maxRecDepth 100000 in
theorem zq_188 : zt_m[188]? = some (⟨"ColumnVaultLaw", "code", "(Ljava/lang/String;)J"⟩, method_5_code, 4, some (.long), [], 17, 1, 0, 1, 99999, 0) := rfl
set_option maxHeartbeats 1000000 in
def f_ColumnVaultLaw_code_4 : Nat → Nat → Int64 → Int32 → zx_H → Option (Int64 × zx_H)
  | 0, _, _, _, _ => none
  | n + 1, p0, p1, p2, h =>
    zf_b (zf_is 0 p0 h) fun _ =>
    zf_b2 (f_String_length p0 h) fun v1 h2 =>
    if v1 ≤ p2 then
      some (p1, h2)
    else
      zf_b (zf_is 0 p0 h2) fun _ =>
      zf_b2 (f_String_charAt p0 p2 h2) fun v3 h4 =>
      (f_ColumnVaultLaw_code_4 n) p0 (((256 : Int64) * p1) + (v3).toInt64) (p2 + (1 : Int32)) h4
set_option maxHeartbeats 4000000 in
set_option maxRecDepth 400000 in
theorem t_f_ColumnVaultLaw_code_4 {sc : (Nat × (Nat → Int32)) × Bool} {d : Nat} : ∀ (n : Nat) (p0 : Nat) (p1 : Int64) (p2 : Int32) (h : zx_H) (r : Int64) (h' : zx_H), f_ColumnVaultLaw_code_4 n p0 p1 p2 h = some (r, h') → zx_T sc (d + 4) 188 (4, [(0, .ref p0), (1, .long p1), (3, .int p2)], []) h (zf_oJ r) h' := by
  intro n
  induction n with
  | zero => intro p0 p1 p2 h r h' hf; cases hf
  | succ n ih =>
    intro p0 p1 p2 h r h' hf
    unfold f_ColumnVaultLaw_code_4 at hf
    refine zv_p (k := 2) (f' := (6, [(0, .ref p0), (1, .long p1), (3, .int p2)], [.ref p0, .int p2])) zq_188 zo_188 (by with_unfolding_all rfl) ?_
    replace hf := zf_be hf
    obtain ⟨_, ho, hf⟩ := hf
    replace hf := zf_b2e hf
    obtain ⟨v1, h2, hv, hf⟩ := hf
    refine zv_c zq_188 zo_188 rfl rfl rfl rfl rfl (zv_cv rfl rfl rfl (zf_ise ho) rfl) (t_f_String_length _ _ _ _ hv) ?_
    replace hf := zf_ite hf
    obtain ⟨hc, hf⟩ | ⟨hc, hf⟩ := hf
    · refine zv_brT (off := 22) (tt := 31) (r := []) zq_188 zo_188 hc rfl rfl rfl ?_
      refine zv_p (k := 1) (f' := (32, [(0, .ref p0), (1, .long p1), (3, .int p2)], [.long p1])) zq_188 zo_188 (by with_unfolding_all rfl) ?_
      cases hf
      exact zv_r zq_188 zo_188 rfl rfl rfl rfl rfl
    · refine zv_brF (off := 22) (tt := 31) (r := []) zq_188 zo_188 hc rfl rfl rfl ?_
      refine zv_lng zq_188 zo_188 rfl rfl ?_
      refine zv_p (k := 4) (f' := (19, [(0, .ref p0), (1, .long p1), (3, .int p2)], [.int p2, .ref p0, .long ((256 : Int64) * p1)])) zq_188 zo_188 (by with_unfolding_all rfl) ?_
      replace hf := zf_be hf
      obtain ⟨_, ho, hf⟩ := hf
      replace hf := zf_b2e hf
      obtain ⟨v3, h4, hv, hf⟩ := hf
      refine zv_c zq_188 zo_188 rfl rfl rfl rfl rfl (zv_cv rfl rfl rfl (zf_ise ho) rfl) (t_f_String_charAt _ _ _ _ _ hv) ?_
      refine zv_p (k := 5) (f' := (4, [(3, .int (p2 + (1 : Int32))), (1, .long (((256 : Int64) * p1) + (v3).toInt64)), (0, .ref p0)], [])) zq_188 zo_188 (by with_unfolding_all rfl) ?_
      refine zv_pick (lv' := [(0, .ref p0), (1, .long (((256 : Int64) * p1) + (v3).toInt64)), (3, .int (p2 + (1 : Int32)))]) [0, 1, 3] rfl rfl ?_
      exact ih _ _ _ _ _ _ hf
set_option maxHeartbeats 1000000 in
def f_ColumnVaultLaw_code (p0 : Nat) (h : zx_H) : Option (Int64 × zx_H) :=
  f_ColumnVaultLaw_code_4 zF p0 (0 : Int64) (0 : Int32) h
set_option maxHeartbeats 4000000 in
set_option maxRecDepth 400000 in
theorem t_f_ColumnVaultLaw_code {sc : (Nat × (Nat → Int32)) × Bool} {d : Nat} (p0 : Nat) (h : zx_H) (r : Int64) (h' : zx_H) (hf : f_ColumnVaultLaw_code p0 h = some (r, h')) : zx_T sc (d + 4) 188 (0, [(0, .ref p0)], []) h (zf_oJ r) h' := by
  unfold f_ColumnVaultLaw_code at hf
  refine zv_p (k := 4) (f' := (4, [(3, .int (0 : Int32)), (1, .long (0 : Int64)), (0, .ref p0)], [])) zq_188 zo_188 (by with_unfolding_all rfl) ?_
  refine zv_pick (lv' := [(0, .ref p0), (1, .long (0 : Int64)), (3, .int (0 : Int32))]) [0, 1, 3] rfl rfl ?_
  exact t_f_ColumnVaultLaw_code_4 zF _ _ _ _ _ _ hf
/-! ColumnVaultLaw.value (arr II)J -/
noncomputable def zI_129 : zd_T := [[(0, .iload_n 1, 1), (1, .iconst 1, 1), (2, .if_icmp .ne 13, 3), (5, .aload_n 0, 1), (6, .invokestatic 46, 3), (9, .invokestatic 50, 3), (12, .goto 33, 3), (15, .aload_n 0, 1), (16, .iconst 4, 1), (17, .invokestatic 16, 3), (20, .ifCond .ne 16, 3), (23, .aload_n 0, 1), (24, .ldc 54, 2), (26, .invokestatic 16, 3), (29, .ldc 55, 2), (31, .isub, 1)], [(32, .i2l, 1), (33, .goto 12, 3), (36, .aload_n 0, 1), (37, .bipush 11, 2), (39, .invokestatic 16, 3), (42, .iconst 5, 1), (43, .isub, 1), (44, .i2l, 1), (45, .lreturn, 1)]]
theorem zo_129 : zd_of 129 = some zI_129 := rfl
set_option maxRecDepth 100000 in
theorem zq_129 : zt_m[129]? = some (⟨"ColumnVaultLaw", "value", "([II)J"⟩, method_7_code, 2, some (.long), [], 17, 2, 0, 1, 99999, 0) := rfl
set_option maxHeartbeats 1000000 in
def f_ColumnVaultLaw_value (p0 : Nat) (p1 : Int32) (h : zx_H) : Option (Int64 × zx_H) :=
  if ¬ p1 = (1 : Int32) then
    zf_b2 (f_ColumnVaultLaw_draw p0 (4 : Int32) h) fun v1 h2 =>
    if ¬ v1 = 0 then
      zf_b2 (f_ColumnVaultLaw_draw p0 (11 : Int32) h2) fun v3 h4 =>
      some (((v3 - (5 : Int32))).toInt64, h4)
    else
      zf_b2 (f_ColumnVaultLaw_draw p0 (2000001 : Int32) h2) fun v5 h6 =>
      some (((v5 - (1000000 : Int32))).toInt64, h6)
  else
    zf_b2 (f_ColumnVaultLaw_text p0 h) fun v7 h8 =>
    zf_b2 (f_ColumnVaultLaw_code v7 h8) fun v9 h10 =>
    some (v9, h10)
set_option maxHeartbeats 4000000 in
set_option maxRecDepth 400000 in
theorem t_f_ColumnVaultLaw_value {sc : (Nat × (Nat → Int32)) × Bool} {d : Nat} (p0 : Nat) (p1 : Int32) (h : zx_H) (r : Int64) (h' : zx_H) (hf : f_ColumnVaultLaw_value p0 p1 h = some (r, h')) : zx_T sc (d + 7) 129 (0, [(0, .ref p0), (1, .int p1)], []) h (zf_oJ r) h' := by
  unfold f_ColumnVaultLaw_value at hf
  refine zv_p (k := 2) (f' := (2, [(0, .ref p0), (1, .int p1)], [.int (1 : Int32), .int p1])) zq_129 zo_129 (by with_unfolding_all rfl) ?_
  replace hf := zf_ite hf
  obtain ⟨hc, hf⟩ | ⟨hc, hf⟩ := hf
  · refine zv_brT (off := 13) (tt := 15) (r := []) zq_129 zo_129 hc rfl rfl rfl ?_
    refine zv_p (k := 2) (f' := (17, [(0, .ref p0), (1, .int p1)], [.int (4 : Int32), .ref p0])) zq_129 zo_129 (by with_unfolding_all rfl) ?_
    replace hf := zf_b2e hf
    obtain ⟨v1, h2, hv, hf⟩ := hf
    refine zv_c zq_129 zo_129 rfl rfl rfl rfl rfl rfl (t_f_ColumnVaultLaw_draw _ _ _ _ _ hv) ?_
    replace hf := zf_ite hf
    obtain ⟨hc, hf⟩ | ⟨hc, hf⟩ := hf
    · refine zv_brT (off := 16) (tt := 36) (r := []) zq_129 zo_129 hc rfl rfl rfl ?_
      refine zv_p (k := 2) (f' := (39, [(0, .ref p0), (1, .int p1)], [.int (11 : Int32), .ref p0])) zq_129 zo_129 (by with_unfolding_all rfl) ?_
      replace hf := zf_b2e hf
      obtain ⟨v3, h4, hv, hf⟩ := hf
      refine zv_c zq_129 zo_129 rfl rfl rfl rfl rfl rfl (t_f_ColumnVaultLaw_draw _ _ _ _ _ hv) ?_
      refine zv_p (k := 3) (f' := (45, [(0, .ref p0), (1, .int p1)], [.long ((v3 - (5 : Int32))).toInt64])) zq_129 zo_129 (by with_unfolding_all rfl) ?_
      cases hf
      exact zv_r zq_129 zo_129 rfl rfl rfl rfl rfl
    · refine zv_brF (off := 16) (tt := 36) (r := []) zq_129 zo_129 hc rfl rfl rfl ?_
      refine zv_p (k := 1) (f' := (24, [(0, .ref p0), (1, .int p1)], [.ref p0])) zq_129 zo_129 (by with_unfolding_all rfl) ?_
      refine zv_ldi zq_129 zo_129 rfl rfl rfl ?_
      replace hf := zf_b2e hf
      obtain ⟨v5, h6, hv, hf⟩ := hf
      refine zv_c zq_129 zo_129 rfl rfl rfl rfl rfl rfl (t_f_ColumnVaultLaw_draw _ _ _ _ _ hv) ?_
      refine zv_ldi zq_129 zo_129 rfl rfl rfl ?_
      refine zv_p (k := 3) (f' := (45, [(0, .ref p0), (1, .int p1)], [.long ((v5 - (1000000 : Int32))).toInt64])) zq_129 zo_129 (by with_unfolding_all rfl) ?_
      cases hf
      exact zv_r zq_129 zo_129 rfl rfl rfl rfl rfl
  · refine zv_brF (off := 13) (tt := 15) (r := []) zq_129 zo_129 hc rfl rfl rfl ?_
    refine zv_p (k := 1) (f' := (6, [(0, .ref p0), (1, .int p1)], [.ref p0])) zq_129 zo_129 (by with_unfolding_all rfl) ?_
    replace hf := zf_b2e hf
    obtain ⟨v7, h8, hv, hf⟩ := hf
    refine zv_c zq_129 zo_129 rfl rfl rfl rfl rfl rfl (t_f_ColumnVaultLaw_text _ _ _ _ hv) ?_
    replace hf := zf_b2e hf
    obtain ⟨v9, h10, hv, hf⟩ := hf
    refine zv_c zq_129 zo_129 rfl rfl rfl rfl rfl rfl (t_f_ColumnVaultLaw_code _ _ _ _ hv) ?_
    refine zv_p (k := 1) (f' := (45, [(0, .ref p0), (1, .int p1)], [.long v9])) zq_129 zo_129 (by with_unfolding_all rfl) ?_
    cases hf
    exact zv_r zq_129 zo_129 rfl rfl rfl rfl rfl
/-! ColumnVault$Sheet.dropFromOrder (I)V -/
noncomputable def zI_195 : zd_T := [[(0, .iconst 0, 1), (1, .istore_n 2, 1), (2, .iconst 0, 1), (3, .istore_n 3, 1), (4, .iload_n 3, 1), (5, .aload_n 0, 1), (6, .getfield 26, 3), (9, .if_icmp .ge 47, 3), (12, .aload_n 0, 1), (13, .getfield 19, 3), (16, .iload_n 3, 1), (17, .iaload, 1), (18, .istore 4, 2), (20, .iload 4, 2), (22, .iload_n 1, 1), (23, .if_icmp .eq 27, 3), (26, .aload_n 0, 1), (27, .getfield 19, 3), (30, .iload_n 2, 1), (31, .iload 4, 2)], [(33, .iload_n 1, 1), (34, .if_icmp .le 10, 3), (37, .iload 4, 2), (39, .iconst 1, 1), (40, .isub, 1), (41, .goto 5, 3), (44, .iload 4, 2), (46, .iastore, 1), (47, .iinc 2 1, 3), (50, .iinc 3 1, 3), (53, .goto (-49), 3), (56, .return_, 1)]]
theorem zo_195 : zd_of 195 = some zI_195 := rfl
set_option maxRecDepth 100000 in
theorem zq_195 : zt_m[195]? = some (⟨"ColumnVault$Sheet", "dropFromOrder", "(I)V"⟩, prog_10_method_14_code, 5, none, [], 10, 1, 0, 0, 0, 0) := rfl
set_option maxHeartbeats 1000000 in
def f_Sheet_dropFromOrder_4 : Nat → Nat → Int32 → Int32 → Int32 → zx_H → Option (Unit × zx_H)
  | 0, _, _, _, _, _ => none
  | n + 1, p0, p1, p2, p3, h =>
    zf_b (zf_I 10 4 p0 h) fun v1 =>
    if v1 ≤ p3 then
      some ((), h)
    else
      zf_b (zf_A 10 2 p0 h) fun v2 =>
      zf_b (zf_ldI v2 p3 h) fun v3 =>
      if v3 = p1 then
        (f_Sheet_dropFromOrder_4 n) p0 p1 p2 (p3 + (1 : Int32)) h
      else
        zf_b (zf_A 10 2 p0 h) fun v4 =>
        if v3 ≤ p1 then
          zf_b (zf_stI v4 p2 v3 h) fun h5 =>
          (f_Sheet_dropFromOrder_4 n) p0 p1 (p2 + (1 : Int32)) (p3 + (1 : Int32)) h5
        else
          zf_b (zf_stI v4 p2 (v3 - (1 : Int32)) h) fun h6 =>
          (f_Sheet_dropFromOrder_4 n) p0 p1 (p2 + (1 : Int32)) (p3 + (1 : Int32)) h6
set_option maxHeartbeats 4000000 in
set_option maxRecDepth 400000 in
theorem t_f_Sheet_dropFromOrder_4 {sc : (Nat × (Nat → Int32)) × Bool} {d : Nat} : ∀ (n : Nat) (p0 : Nat) (p1 : Int32) (p2 : Int32) (p3 : Int32) (h : zx_H) (r : Unit) (h' : zx_H), f_Sheet_dropFromOrder_4 n p0 p1 p2 p3 h = some (r, h') → zx_T sc d 195 (4, [(0, .ref p0), (1, .int p1), (2, .int p2), (3, .int p3)], []) h (zf_oV r) h' := by
  intro n
  induction n with
  | zero => intro p0 p1 p2 p3 h r h' hf; cases hf
  | succ n ih =>
    intro p0 p1 p2 p3 h r h' hf
    unfold f_Sheet_dropFromOrder_4 at hf
    refine zv_p (k := 2) (f' := (6, [(0, .ref p0), (1, .int p1), (2, .int p2), (3, .int p3)], [.ref p0, .int p3])) zq_195 zo_195 (by with_unfolding_all rfl) ?_
    replace hf := zf_be hf
    obtain ⟨v1, hv, hf⟩ := hf
    refine zv_gf zq_195 zo_195 rfl rfl rfl (zf_Ie hv) ?_
    replace hf := zf_ite hf
    obtain ⟨hc, hf⟩ | ⟨hc, hf⟩ := hf
    · refine zv_brT (off := 47) (tt := 56) (r := []) zq_195 zo_195 hc rfl rfl rfl ?_
      cases hf
      exact zv_r zq_195 zo_195 rfl rfl rfl rfl rfl
    · refine zv_brF (off := 47) (tt := 56) (r := []) zq_195 zo_195 hc rfl rfl rfl ?_
      refine zv_p (k := 1) (f' := (13, [(0, .ref p0), (1, .int p1), (2, .int p2), (3, .int p3)], [.ref p0])) zq_195 zo_195 (by with_unfolding_all rfl) ?_
      replace hf := zf_be hf
      obtain ⟨v2, hv, hf⟩ := hf
      refine zv_gf zq_195 zo_195 rfl rfl rfl (zf_Ae hv) ?_
      refine zv_p (k := 1) (f' := (17, [(0, .ref p0), (1, .int p1), (2, .int p2), (3, .int p3)], [.int p3, .ref v2])) zq_195 zo_195 (by with_unfolding_all rfl) ?_
      replace hf := zf_be hf
      obtain ⟨v3, hv, hf⟩ := hf
      refine zv_ldI zq_195 zo_195 rfl hv ?_
      refine zv_p (k := 3) (f' := (23, [(4, .int v3), (0, .ref p0), (1, .int p1), (2, .int p2), (3, .int p3)], [.int p1, .int v3])) zq_195 zo_195 (by with_unfolding_all rfl) ?_
      replace hf := zf_ite hf
      obtain ⟨hc, hf⟩ | ⟨hc, hf⟩ := hf
      · refine zv_brT (off := 27) (tt := 50) (r := []) zq_195 zo_195 hc rfl rfl rfl ?_
        refine zv_p (k := 2) (f' := (4, [(3, .int (p3 + (1 : Int32))), (4, .int v3), (0, .ref p0), (1, .int p1), (2, .int p2)], [])) zq_195 zo_195 (by with_unfolding_all rfl) ?_
        refine zv_pick (lv' := [(0, .ref p0), (1, .int p1), (2, .int p2), (3, .int (p3 + (1 : Int32)))]) [0, 1, 2, 3] rfl rfl ?_
        exact ih _ _ _ _ _ _ _ hf
      · refine zv_brF (off := 27) (tt := 50) (r := []) zq_195 zo_195 hc rfl rfl rfl ?_
        refine zv_p (k := 1) (f' := (27, [(4, .int v3), (0, .ref p0), (1, .int p1), (2, .int p2), (3, .int p3)], [.ref p0])) zq_195 zo_195 (by with_unfolding_all rfl) ?_
        replace hf := zf_be hf
        obtain ⟨v4, hv, hf⟩ := hf
        refine zv_gf zq_195 zo_195 rfl rfl rfl (zf_Ae hv) ?_
        refine zv_p (k := 3) (f' := (34, [(4, .int v3), (0, .ref p0), (1, .int p1), (2, .int p2), (3, .int p3)], [.int p1, .int v3, .int p2, .ref v4])) zq_195 zo_195 (by with_unfolding_all rfl) ?_
        replace hf := zf_ite hf
        obtain ⟨hc, hf⟩ | ⟨hc, hf⟩ := hf
        · refine zv_brT (off := 10) (tt := 44) (r := [.int p2, .ref v4]) zq_195 zo_195 hc rfl rfl rfl ?_
          refine zv_p (k := 1) (f' := (46, [(4, .int v3), (0, .ref p0), (1, .int p1), (2, .int p2), (3, .int p3)], [.int v3, .int p2, .ref v4])) zq_195 zo_195 (by with_unfolding_all rfl) ?_
          replace hf := zf_be hf
          obtain ⟨h5, hv, hf⟩ := hf
          refine zv_stI zq_195 zo_195 rfl hv ?_
          refine zv_p (k := 3) (f' := (4, [(3, .int (p3 + (1 : Int32))), (2, .int (p2 + (1 : Int32))), (4, .int v3), (0, .ref p0), (1, .int p1)], [])) zq_195 zo_195 (by with_unfolding_all rfl) ?_
          refine zv_pick (lv' := [(0, .ref p0), (1, .int p1), (2, .int (p2 + (1 : Int32))), (3, .int (p3 + (1 : Int32)))]) [0, 1, 2, 3] rfl rfl ?_
          exact ih _ _ _ _ _ _ _ hf
        · refine zv_brF (off := 10) (tt := 44) (r := [.int p2, .ref v4]) zq_195 zo_195 hc rfl rfl rfl ?_
          refine zv_p (k := 4) (f' := (46, [(4, .int v3), (0, .ref p0), (1, .int p1), (2, .int p2), (3, .int p3)], [.int (v3 - (1 : Int32)), .int p2, .ref v4])) zq_195 zo_195 (by with_unfolding_all rfl) ?_
          replace hf := zf_be hf
          obtain ⟨h6, hv, hf⟩ := hf
          refine zv_stI zq_195 zo_195 rfl hv ?_
          refine zv_p (k := 3) (f' := (4, [(3, .int (p3 + (1 : Int32))), (2, .int (p2 + (1 : Int32))), (4, .int v3), (0, .ref p0), (1, .int p1)], [])) zq_195 zo_195 (by with_unfolding_all rfl) ?_
          refine zv_pick (lv' := [(0, .ref p0), (1, .int p1), (2, .int (p2 + (1 : Int32))), (3, .int (p3 + (1 : Int32)))]) [0, 1, 2, 3] rfl rfl ?_
          exact ih _ _ _ _ _ _ _ hf
set_option maxHeartbeats 1000000 in
def f_Sheet_dropFromOrder (p0 : Nat) (p1 : Int32) (h : zx_H) : Option (Unit × zx_H) :=
  f_Sheet_dropFromOrder_4 zF p0 p1 (0 : Int32) (0 : Int32) h
set_option maxHeartbeats 4000000 in
set_option maxRecDepth 400000 in
theorem t_f_Sheet_dropFromOrder {sc : (Nat × (Nat → Int32)) × Bool} {d : Nat} (p0 : Nat) (p1 : Int32) (h : zx_H) (r : Unit) (h' : zx_H) (hf : f_Sheet_dropFromOrder p0 p1 h = some (r, h')) : zx_T sc d 195 (0, [(0, .ref p0), (1, .int p1)], []) h (zf_oV r) h' := by
  unfold f_Sheet_dropFromOrder at hf
  refine zv_p (k := 4) (f' := (4, [(3, .int (0 : Int32)), (2, .int (0 : Int32)), (0, .ref p0), (1, .int p1)], [])) zq_195 zo_195 (by with_unfolding_all rfl) ?_
  refine zv_pick (lv' := [(0, .ref p0), (1, .int p1), (2, .int (0 : Int32)), (3, .int (0 : Int32))]) [0, 1, 2, 3] rfl rfl ?_
  exact t_f_Sheet_dropFromOrder_4 zF _ _ _ _ _ _ _ hf
/-! ColumnVault$Sheet.dropRow (I)V -/
noncomputable def zI_194 : zd_T := [[(0, .aload_n 0, 1), (1, .iload_n 1, 1), (2, .invokevirtual 49, 3), (5, .ifCond .ne 4, 3), (8, .return_, 1), (9, .iconst 0, 1), (10, .istore_n 2, 1), (11, .iload_n 2, 1), (12, .aload_n 0, 1), (13, .getfield 22, 3), (16, .if_icmp .ge 41, 3), (19, .iload_n 1, 1), (20, .iconst 1, 1), (21, .iadd, 1), (22, .istore_n 3, 1), (23, .iload_n 3, 1), (24, .aload_n 0, 1), (25, .getfield 26, 3), (28, .if_icmp .ge 23, 3), (31, .aload_n 0, 1)], [(32, .iload_n 2, 1), (33, .iload_n 3, 1), (34, .iconst 1, 1), (35, .isub, 1), (36, .aload_n 0, 1), (37, .iload_n 2, 1), (38, .iload_n 3, 1), (39, .invokevirtual 52, 3), (42, .invokevirtual 69, 3), (45, .iinc 3 1, 3), (48, .goto (-25), 3), (51, .iinc 2 1, 3), (54, .goto (-43), 3), (57, .aload_n 0, 1), (58, .iload_n 1, 1), (59, .invokevirtual 73, 3), (62, .lconst 1, 1), (63, .iload_n 1, 1)], [(64, .lshl, 1), (65, .lconst 1, 1), (66, .lsub, 1), (67, .lstore_n 2, 1), (68, .aload_n 0, 1), (69, .aload_n 0, 1), (70, .getfield 29, 3), (73, .lload_n 2, 1), (74, .land, 1), (75, .aload_n 0, 1), (76, .getfield 29, 3), (79, .iconst 1, 1), (80, .lushr, 1), (81, .lload_n 2, 1), (82, .ldc2_w 77, 3), (85, .lxor, 1), (86, .land, 1), (87, .lor, 1), (88, .putfield 29, 3), (91, .aload_n 0, 1), (92, .dup, 1), (93, .getfield 26, 3)], [(96, .iconst 1, 1), (97, .isub, 1), (98, .putfield 26, 3), (101, .return_, 1)]]
theorem zo_194 : zd_of 194 = some zI_194 := rfl
set_option maxRecDepth 100000 in
theorem zq_194 : zt_m[194]? = some (⟨"ColumnVault$Sheet", "dropRow", "(I)V"⟩, prog_10_method_13_code, 4, none, [], 10, 1, 0, 0, 0, 0) := rfl
