set_option maxHeartbeats 1000000 in
def f_AbstractStringBuilder_append (p0 : Nat) (p1 : Int32) (h : zx_H) : Option (Nat × zx_H) :=
  zf_b (zf_I 1 3 p0 h) fun v1 =>
  zf_b (zf_is 1 p0 h) fun _ =>
  zf_b2 (f_AbstractStringBuilder_ensureCapacityInternal p0 (v1 + (1 : Int32)) h) fun _ h3 =>
  zf_b2 (fv_0 p0 h3) fun v4 h5 =>
  if v4 = 0 then
    zf_b2 (fv_0 p0 h5) fun v6 h7 =>
    if v6 = 0 then
      f_AbstractStringBuilder_append_56 p0 p1 h7
    else
      zf_b (zf_is 1 p0 h7) fun _ =>
      zf_b2 (f_AbstractStringBuilder_inflate p0 h7) fun _ h9 =>
      f_AbstractStringBuilder_append_56 p0 p1 h9
  else
    zf_b2 (f_StringLatin1_canEncode p1 h5) fun v10 h11 =>
    if v10 = 0 then
      zf_b2 (fv_0 p0 h11) fun v12 h13 =>
      if v12 = 0 then
        f_AbstractStringBuilder_append_56 p0 p1 h13
      else
        zf_b (zf_is 1 p0 h13) fun _ =>
        zf_b2 (f_AbstractStringBuilder_inflate p0 h13) fun _ h15 =>
        f_AbstractStringBuilder_append_56 p0 p1 h15
    else
      zf_b (zf_A 1 0 p0 h11) fun v16 =>
      zf_b (zf_I 1 3 p0 h11) fun v17 =>
      zf_b (zf_put 1 3 p0 (.int (v17 + (1 : Int32))) h11) fun h18 =>
      zf_b (zf_stB v16 v17 ((p1).toInt8.toInt32) h18) fun h19 =>
      some (p0, h19)
set_option maxHeartbeats 4000000 in
set_option maxRecDepth 400000 in
theorem t_f_AbstractStringBuilder_append {sc : (Nat × (Nat → Int32)) × Bool} {d : Nat} (p0 : Nat) (p1 : Int32) (h : zx_H) (r : Nat) (h' : zx_H) (hf : f_AbstractStringBuilder_append p0 p1 h = some (r, h')) : zx_T sc (d + 4) 136 (0, [(0, .ref p0), (1, .int p1)], []) h (zf_oA r) h' := by
  unfold f_AbstractStringBuilder_append at hf
  refine zv_p (k := 2) (f' := (2, [(0, .ref p0), (1, .int p1)], [.ref p0, .ref p0])) zq_136 zo_136 (by with_unfolding_all rfl) ?_
  replace hf := zf_be hf
  obtain ⟨v1, hv, hf⟩ := hf
  refine zv_gf zq_136 zo_136 rfl rfl rfl (zf_Ie hv) ?_
  refine zv_p (k := 2) (f' := (7, [(0, .ref p0), (1, .int p1)], [.int (v1 + (1 : Int32)), .ref p0])) zq_136 zo_136 (by with_unfolding_all rfl) ?_
  replace hf := zf_be hf
  obtain ⟨_, ho, hf⟩ := hf
  replace hf := zf_b2e hf
  obtain ⟨v2, h3, hv, hf⟩ := hf
  refine zv_c zq_136 zo_136 rfl rfl rfl rfl rfl (zv_cp rfl rfl rfl (zf_ise ho) rfl) (t_f_AbstractStringBuilder_ensureCapacityInternal _ _ _ _ _ hv) ?_
  refine zv_p (k := 1) (f' := (11, [(0, .ref p0), (1, .int p1)], [.ref p0])) zq_136 zo_136 (by with_unfolding_all rfl) ?_
  replace hf := zf_b2e hf
  obtain ⟨v4, h5, hv, hf⟩ := hf
  obtain ⟨mj, hcl, hrun⟩ := tv_0 hv
  refine zv_c zq_136 zo_136 rfl rfl rfl rfl rfl (hcl _ _ _ _ _ _ rfl rfl rfl rfl) hrun ?_
  replace hf := zf_ite hf
  obtain ⟨hc, hf⟩ | ⟨hc, hf⟩ := hf
  · refine zv_brT (off := 31) (tt := 45) (r := []) zq_136 zo_136 hc rfl rfl rfl ?_
    refine zv_p (k := 1) (f' := (46, [(0, .ref p0), (1, .int p1)], [.ref p0])) zq_136 zo_136 (by with_unfolding_all rfl) ?_
    replace hf := zf_b2e hf
    obtain ⟨v6, h7, hv, hf⟩ := hf
    obtain ⟨mj, hcl, hrun⟩ := tv_0 hv
    refine zv_c zq_136 zo_136 rfl rfl rfl rfl rfl (hcl _ _ _ _ _ _ rfl rfl rfl rfl) hrun ?_
    replace hf := zf_ite hf
    obtain ⟨hc, hf⟩ | ⟨hc, hf⟩ := hf
    · refine zv_brT (off := 7) (tt := 56) (r := []) zq_136 zo_136 hc rfl rfl rfl ?_
      refine zv_pick (lv' := [(0, .ref p0), (1, .int p1)]) [0, 1] rfl rfl ?_
      exact t_f_AbstractStringBuilder_append_56 _ _ _ _ _ hf
    · refine zv_brF (off := 7) (tt := 56) (r := []) zq_136 zo_136 hc rfl rfl rfl ?_
      refine zv_p (k := 1) (f' := (53, [(0, .ref p0), (1, .int p1)], [.ref p0])) zq_136 zo_136 (by with_unfolding_all rfl) ?_
      replace hf := zf_be hf
      obtain ⟨_, ho, hf⟩ := hf
      replace hf := zf_b2e hf
      obtain ⟨v8, h9, hv, hf⟩ := hf
      refine zv_c zq_136 zo_136 rfl rfl rfl rfl rfl (zv_cp rfl rfl rfl (zf_ise ho) rfl) (t_f_AbstractStringBuilder_inflate _ _ _ _ hv) ?_
      refine zv_pick (lv' := [(0, .ref p0), (1, .int p1)]) [0, 1] rfl rfl ?_
      exact t_f_AbstractStringBuilder_append_56 _ _ _ _ _ hf
  · refine zv_brF (off := 31) (tt := 45) (r := []) zq_136 zo_136 hc rfl rfl rfl ?_
    refine zv_p (k := 1) (f' := (18, [(0, .ref p0), (1, .int p1)], [.int p1])) zq_136 zo_136 (by with_unfolding_all rfl) ?_
    replace hf := zf_b2e hf
    obtain ⟨v10, h11, hv, hf⟩ := hf
    refine zv_c zq_136 zo_136 rfl rfl rfl rfl rfl rfl (t_f_StringLatin1_canEncode _ _ _ _ hv) ?_
    replace hf := zf_ite hf
    obtain ⟨hc, hf⟩ | ⟨hc, hf⟩ := hf
    · refine zv_brT (off := 24) (tt := 45) (r := []) zq_136 zo_136 hc rfl rfl rfl ?_
      refine zv_p (k := 1) (f' := (46, [(0, .ref p0), (1, .int p1)], [.ref p0])) zq_136 zo_136 (by with_unfolding_all rfl) ?_
      replace hf := zf_b2e hf
      obtain ⟨v12, h13, hv, hf⟩ := hf
      obtain ⟨mj, hcl, hrun⟩ := tv_0 hv
      refine zv_c zq_136 zo_136 rfl rfl rfl rfl rfl (hcl _ _ _ _ _ _ rfl rfl rfl rfl) hrun ?_
      replace hf := zf_ite hf
      obtain ⟨hc, hf⟩ | ⟨hc, hf⟩ := hf
      · refine zv_brT (off := 7) (tt := 56) (r := []) zq_136 zo_136 hc rfl rfl rfl ?_
        refine zv_pick (lv' := [(0, .ref p0), (1, .int p1)]) [0, 1] rfl rfl ?_
        exact t_f_AbstractStringBuilder_append_56 _ _ _ _ _ hf
      · refine zv_brF (off := 7) (tt := 56) (r := []) zq_136 zo_136 hc rfl rfl rfl ?_
        refine zv_p (k := 1) (f' := (53, [(0, .ref p0), (1, .int p1)], [.ref p0])) zq_136 zo_136 (by with_unfolding_all rfl) ?_
        replace hf := zf_be hf
        obtain ⟨_, ho, hf⟩ := hf
        replace hf := zf_b2e hf
        obtain ⟨v14, h15, hv, hf⟩ := hf
        refine zv_c zq_136 zo_136 rfl rfl rfl rfl rfl (zv_cp rfl rfl rfl (zf_ise ho) rfl) (t_f_AbstractStringBuilder_inflate _ _ _ _ hv) ?_
        refine zv_pick (lv' := [(0, .ref p0), (1, .int p1)]) [0, 1] rfl rfl ?_
        exact t_f_AbstractStringBuilder_append_56 _ _ _ _ _ hf
    · refine zv_brF (off := 24) (tt := 45) (r := []) zq_136 zo_136 hc rfl rfl rfl ?_
      refine zv_p (k := 1) (f' := (25, [(0, .ref p0), (1, .int p1)], [.ref p0])) zq_136 zo_136 (by with_unfolding_all rfl) ?_
      replace hf := zf_be hf
      obtain ⟨v16, hv, hf⟩ := hf
      refine zv_gf zq_136 zo_136 rfl rfl rfl (zf_Ae hv) ?_
      refine zv_p (k := 2) (f' := (30, [(0, .ref p0), (1, .int p1)], [.ref p0, .ref p0, .ref v16])) zq_136 zo_136 (by with_unfolding_all rfl) ?_
      replace hf := zf_be hf
      obtain ⟨v17, hv, hf⟩ := hf
      refine zv_gf zq_136 zo_136 rfl rfl rfl (zf_Ie hv) ?_
      refine zv_p (k := 3) (f' := (36, [(0, .ref p0), (1, .int p1)], [.int (v17 + (1 : Int32)), .ref p0, .int v17, .ref v16])) zq_136 zo_136 (by with_unfolding_all rfl) ?_
      replace hf := zf_be hf
      obtain ⟨h18, hv, hf⟩ := hf
      refine zv_pf zq_136 zo_136 rfl rfl rfl rfl hv ?_
      refine zv_p (k := 2) (f' := (41, [(0, .ref p0), (1, .int p1)], [.int (p1).toInt8.toInt32, .int v17, .ref v16])) zq_136 zo_136 (by with_unfolding_all rfl) ?_
      replace hf := zf_be hf
      obtain ⟨h19, hv, hf⟩ := hf
      refine zv_stB zq_136 zo_136 rfl hv ?_
      refine zv_p (k := 2) (f' := (76, [(0, .ref p0), (1, .int p1)], [.ref p0])) zq_136 zo_136 (by with_unfolding_all rfl) ?_
      cases hf
      exact zv_r zq_136 zo_136 rfl rfl rfl rfl rfl
/-! StringBuilder.append (C)Ljava/lang/StringBuilder; -/
noncomputable def zI_135 : zd_T := [[(0, .aload_n 0, 1), (1, .iload_n 1, 1), (2, .invokespecial 50, 3), (5, .pop, 1), (6, .aload_n 0, 1), (7, .areturn, 1)]]
theorem zo_135 : zd_of 135 = some zI_135 := rfl
set_option maxRecDepth 100000 in
theorem zq_135 : zt_m[135]? = some (⟨"java/lang/StringBuilder", "append", "(C)Ljava/lang/StringBuilder;"⟩, prog_32_method_14_code, 2, some (.object "java/lang/StringBuilder"), [], 1, 1, 0, 0, 0, 0) := rfl
set_option maxHeartbeats 1000000 in
def f_StringBuilder_append (p0 : Nat) (p1 : Int32) (h : zx_H) : Option (Nat × zx_H) :=
  zf_b (zf_is 1 p0 h) fun _ =>
  zf_b2 (f_AbstractStringBuilder_append p0 p1 h) fun v1 h2 =>
  some (p0, h2)
set_option maxHeartbeats 4000000 in
set_option maxRecDepth 400000 in
theorem t_f_StringBuilder_append {sc : (Nat × (Nat → Int32)) × Bool} {d : Nat} (p0 : Nat) (p1 : Int32) (h : zx_H) (r : Nat) (h' : zx_H) (hf : f_StringBuilder_append p0 p1 h = some (r, h')) : zx_T sc (d + 5) 135 (0, [(0, .ref p0), (1, .int p1)], []) h (zf_oA r) h' := by
  unfold f_StringBuilder_append at hf
  refine zv_p (k := 2) (f' := (2, [(0, .ref p0), (1, .int p1)], [.int p1, .ref p0])) zq_135 zo_135 (by with_unfolding_all rfl) ?_
  replace hf := zf_be hf
  obtain ⟨_, ho, hf⟩ := hf
  replace hf := zf_b2e hf
  obtain ⟨v1, h2, hv, hf⟩ := hf
  refine zv_c zq_135 zo_135 rfl rfl rfl rfl rfl (zv_cs rfl rfl rfl (zf_ise ho) rfl) (t_f_AbstractStringBuilder_append _ _ _ _ _ hv) ?_
  refine zv_p (k := 2) (f' := (7, [(0, .ref p0), (1, .int p1)], [.ref p0])) zq_135 zo_135 (by with_unfolding_all rfl) ?_
  cases hf
  exact zv_r zq_135 zo_135 rfl rfl rfl rfl rfl
/-! AbstractStringBuilder.getValue ()arr B -/
noncomputable def zI_160 : zd_T := [[(0, .aload_n 0, 1), (1, .getfield 15, 3), (4, .areturn, 1)]]
theorem zo_160 : zd_of 160 = some zI_160 := rfl
set_option maxRecDepth 100000 in
theorem zq_160 : zt_m[160]? = some (⟨"java/lang/AbstractStringBuilder", "getValue", "()[B"⟩, prog_17_method_64_code, 1, some (.array (.byte)), [], 20, 0, 0, 0, 99999, 0) := rfl
set_option maxHeartbeats 1000000 in
def f_AbstractStringBuilder_getValue (p0 : Nat) (h : zx_H) : Option (Nat × zx_H) :=
  zf_b (zf_A 1 0 p0 h) fun v1 =>
  some (v1, h)
set_option maxHeartbeats 4000000 in
set_option maxRecDepth 400000 in
theorem t_f_AbstractStringBuilder_getValue {sc : (Nat × (Nat → Int32)) × Bool} {d : Nat} (p0 : Nat) (h : zx_H) (r : Nat) (h' : zx_H) (hf : f_AbstractStringBuilder_getValue p0 h = some (r, h')) : zx_T sc d 160 (0, [(0, .ref p0)], []) h (zf_oA r) h' := by
  unfold f_AbstractStringBuilder_getValue at hf
  refine zv_p (k := 1) (f' := (1, [(0, .ref p0)], [.ref p0])) zq_160 zo_160 (by with_unfolding_all rfl) ?_
  replace hf := zf_be hf
  obtain ⟨v1, hv, hf⟩ := hf
  refine zv_gf zq_160 zo_160 rfl rfl rfl (zf_Ae hv) ?_
  cases hf
  exact zv_r zq_160 zo_160 rfl rfl rfl rfl rfl
def fv_1 (p0 : Nat) (h : zx_H) : Option (Nat × zx_H) := zf_kd p0 h fun ci =>
  if ci = 1 then f_AbstractStringBuilder_getValue p0 h
  else none
theorem tv_1 {sc : (Nat × (Nat → Int32)) × Bool} {d : Nat} {p0 : Nat} {h : zx_H} {r : Nat} {h' : zx_H} (hv : fv_1 p0 h = some (r, h')) : ∃ mj, (∀ (oc i y w : Nat) (st rest : List Value), zx_pool oc i = some (12, 1, y, w) → st.drop 0 = .ref p0 :: rest → (st.take 0).reverse = [] → Nat.ble (zx_cs rest) 8 = true → zx_c oc st h (.invokevirtual i) 3 = some (mj, .ref p0 :: [], rest)) ∧ zx_T sc (d + 0) mj (0, [(0, .ref p0)], []) h (zf_oA r) h' := by
  unfold fv_1 at hv
  obtain ⟨ci, hk, hv⟩ := zf_kde hv
  obtain ⟨rfl, hv⟩ | ⟨-, hv⟩ := zf_ite hv
  · refine ⟨160, fun oc i y w st rest h1 h2 h3 h4 => ?_, t_f_AbstractStringBuilder_getValue _ _ _ _ hv⟩
    have h5 := zv_c12 (mj := 160) (npj := 0) h1 rfl rfl rfl h2 hk (by rw [h4, h3]; rfl)
    rw [h3] at h5
    exact h5
  · cases hv
/-! AbstractStringBuilder.length ()I -/
noncomputable def zI_162 : zd_T := [[(0, .aload_n 0, 1), (1, .getfield 79, 3), (4, .ireturn, 1)]]
theorem zo_162 : zd_of 162 = some zI_162 := rfl
set_option maxRecDepth 100000 in
theorem zq_162 : zt_m[162]? = some (⟨"java/lang/AbstractStringBuilder", "length", "()I"⟩, prog_17_method_6_code, 1, some (.int), [], 20, 0, 0, 0, 99999, 0) := rfl
set_option maxHeartbeats 1000000 in
def f_AbstractStringBuilder_length (p0 : Nat) (h : zx_H) : Option (Int32 × zx_H) :=
  zf_b (zf_I 1 3 p0 h) fun v1 =>
  some (v1, h)
set_option maxHeartbeats 4000000 in
set_option maxRecDepth 400000 in
theorem t_f_AbstractStringBuilder_length {sc : (Nat × (Nat → Int32)) × Bool} {d : Nat} (p0 : Nat) (h : zx_H) (r : Int32) (h' : zx_H) (hf : f_AbstractStringBuilder_length p0 h = some (r, h')) : zx_T sc d 162 (0, [(0, .ref p0)], []) h (zf_oI r) h' := by
  unfold f_AbstractStringBuilder_length at hf
  refine zv_p (k := 1) (f' := (1, [(0, .ref p0)], [.ref p0])) zq_162 zo_162 (by with_unfolding_all rfl) ?_
  replace hf := zf_be hf
  obtain ⟨v1, hv, hf⟩ := hf
  refine zv_gf zq_162 zo_162 rfl rfl rfl (zf_Ie hv) ?_
  cases hf
  exact zv_rn zq_162 zo_162 rfl rfl
/-! StringBuilder.length ()I -/
noncomputable def zI_161 : zd_T := [[(0, .aload_n 0, 1), (1, .invokespecial 343, 3), (4, .ireturn, 1)]]
theorem zo_161 : zd_of 161 = some zI_161 := rfl
set_option maxRecDepth 100000 in
theorem zq_161 : zt_m[161]? = some (⟨"java/lang/StringBuilder", "length", "()I"⟩, prog_32_method_93_code, 1, some (.int), [], 1, 0, 0, 0, 0, 0) := rfl
set_option maxHeartbeats 1000000 in
def f_StringBuilder_length (p0 : Nat) (h : zx_H) : Option (Int32 × zx_H) :=
  zf_b (zf_is 1 p0 h) fun _ =>
  zf_b2 (f_AbstractStringBuilder_length p0 h) fun v1 h2 =>
  some (v1, h2)
set_option maxHeartbeats 4000000 in
set_option maxRecDepth 400000 in
theorem t_f_StringBuilder_length {sc : (Nat × (Nat → Int32)) × Bool} {d : Nat} (p0 : Nat) (h : zx_H) (r : Int32) (h' : zx_H) (hf : f_StringBuilder_length p0 h = some (r, h')) : zx_T sc (d + 1) 161 (0, [(0, .ref p0)], []) h (zf_oI r) h' := by
  unfold f_StringBuilder_length at hf
  refine zv_p (k := 1) (f' := (1, [(0, .ref p0)], [.ref p0])) zq_161 zo_161 (by with_unfolding_all rfl) ?_
  replace hf := zf_be hf
  obtain ⟨_, ho, hf⟩ := hf
  replace hf := zf_b2e hf
  obtain ⟨v1, h2, hv, hf⟩ := hf
  refine zv_c zq_161 zo_161 rfl rfl rfl rfl rfl (zv_cs rfl rfl rfl (zf_ise ho) rfl) (t_f_AbstractStringBuilder_length _ _ _ _ hv) ?_
  cases hf
  exact zv_rn zq_161 zo_161 rfl rfl
def fv_2 (p0 : Nat) (h : zx_H) : Option (Int32 × zx_H) := zf_kd p0 h fun ci =>
  if ci = 1 then f_StringBuilder_length p0 h
  else none
theorem tv_2 {sc : (Nat × (Nat → Int32)) × Bool} {d : Nat} {p0 : Nat} {h : zx_H} {r : Int32} {h' : zx_H} (hv : fv_2 p0 h = some (r, h')) : ∃ mj, (∀ (oc i y w : Nat) (st rest : List Value), zx_pool oc i = some (12, 2, y, w) → st.drop 0 = .ref p0 :: rest → (st.take 0).reverse = [] → Nat.ble (zx_cs rest) 8 = true → zx_c oc st h (.invokevirtual i) 3 = some (mj, .ref p0 :: [], rest)) ∧ zx_T sc (d + 1) mj (0, [(0, .ref p0)], []) h (zf_oI r) h' := by
  unfold fv_2 at hv
  obtain ⟨ci, hk, hv⟩ := zf_kde hv
  obtain ⟨rfl, hv⟩ | ⟨-, hv⟩ := zf_ite hv
  · refine ⟨161, fun oc i y w st rest h1 h2 h3 h4 => ?_, t_f_StringBuilder_length _ _ _ _ hv⟩
    have h5 := zv_c12 (mj := 161) (npj := 0) h1 rfl rfl rfl h2 hk (by rw [h4, h3]; rfl)
    rw [h3] at h5
    exact h5
  · cases hv
/-! Arrays.checkLength (II)V -/
noncomputable def zI_165 : zd_T := [[(0, .iload_n 1, 1), (1, .iload_n 0, 1), (2, .if_icmp .ge 35, 3), (5, .new 43, 3), (8, .dup, 1), (9, .new 45, 3), (12, .dup, 1), (13, .invokespecial 47, 3), (16, .iload_n 0, 1), (17, .invokevirtual 54, 3), (20, .ldc_w 337, 3), (23, .invokevirtual 50, 3), (26, .iload_n 1, 1), (27, .invokevirtual 54, 3), (30, .invokevirtual 61, 3)], [(33, .invokespecial 65, 3), (36, .athrow, 1), (37, .return_, 1)]]
theorem zo_165 : zd_of 165 = some zI_165 := rfl
set_option maxRecDepth 100000 in
theorem zq_165 : zt_m[165]? = some (⟨"java/util/Arrays", "checkLength", "(II)V"⟩, prog_39_method_131_code, 2, none, [], 23, 2, 0, 1, 99999, 0) := rfl
set_option maxHeartbeats 1000000 in
def f_Arrays_checkLength (p0 : Int32) (p1 : Int32) (h : zx_H) : Option (Unit × zx_H) :=
  if p0 ≤ p1 then
    some ((), h)
  else
    none
set_option maxHeartbeats 4000000 in
set_option maxRecDepth 400000 in
theorem t_f_Arrays_checkLength {sc : (Nat × (Nat → Int32)) × Bool} {d : Nat} (p0 : Int32) (p1 : Int32) (h : zx_H) (r : Unit) (h' : zx_H) (hf : f_Arrays_checkLength p0 p1 h = some (r, h')) : zx_T sc d 165 (0, [(0, .int p0), (1, .int p1)], []) h (zf_oV r) h' := by
  unfold f_Arrays_checkLength at hf
  refine zv_p (k := 2) (f' := (2, [(0, .int p0), (1, .int p1)], [.int p0, .int p1])) zq_165 zo_165 (by with_unfolding_all rfl) ?_
  replace hf := zf_ite hf
  obtain ⟨hc, hf⟩ | ⟨hc, hf⟩ := hf
  · refine zv_brT (off := 35) (tt := 37) (r := []) zq_165 zo_165 hc rfl rfl rfl ?_
    cases hf
    exact zv_r zq_165 zo_165 rfl rfl rfl rfl rfl
  · refine zv_brF (off := 35) (tt := 37) (r := []) zq_165 zo_165 hc rfl rfl rfl ?_
    cases hf
/-! Arrays.copyOfRangeByte (arr BII)arr B -/
noncomputable def zI_164 : zd_T := [[(0, .iload_n 1, 1), (1, .iload_n 2, 1), (2, .invokestatic 343, 3), (5, .iload_n 2, 1), (6, .iload_n 1, 1), (7, .isub, 1), (8, .istore_n 3, 1), (9, .iload_n 3, 1), (10, .newarray .byte, 2), (12, .astore 4, 2), (14, .aload_n 0, 1), (15, .iload_n 1, 1), (16, .aload 4, 2), (18, .iconst 0, 1), (19, .aload_n 0, 1), (20, .arraylength, 1), (21, .iload_n 1, 1), (22, .isub, 1), (23, .iload_n 3, 1), (24, .invokestatic 304, 3), (27, .invokestatic 150, 3), (30, .aload 4, 2)], [(32, .areturn, 1)]]
theorem zo_164 : zd_of 164 = some zI_164 := rfl
set_option maxRecDepth 100000 in
theorem zq_164 : zt_m[164]? = some (⟨"java/util/Arrays", "copyOfRangeByte", "([BII)[B"⟩, prog_39_method_133_code, 5, some (.array (.byte)), [], 23, 3, 0, 1, 99999, 0) := rfl
set_option maxHeartbeats 1000000 in
def f_Arrays_copyOfRangeByte (p0 : Nat) (p1 : Int32) (p2 : Int32) (h : zx_H) : Option (Nat × zx_H) :=
  zf_b2 (f_Arrays_checkLength p1 p2 h) fun _ h2 =>
  zf_b2 (zf_newa .byte 3 (p2 - p1) h2) fun q3 h4 =>
  zf_b (zf_len p0 h4) fun v5 =>
  zf_b (zf_cpy p0 p1 q3 (0 : Int32) (if (p2 - p1) < (v5 - p1) then (p2 - p1) else (v5 - p1)) h4) fun h6 =>
  some (q3, h6)
set_option maxHeartbeats 4000000 in
set_option maxRecDepth 400000 in
theorem t_f_Arrays_copyOfRangeByte {sc : (Nat × (Nat → Int32)) × Bool} {d : Nat} (p0 : Nat) (p1 : Int32) (p2 : Int32) (h : zx_H) (r : Nat) (h' : zx_H) (hf : f_Arrays_copyOfRangeByte p0 p1 p2 h = some (r, h')) : zx_T sc (d + 1) 164 (0, [(0, .ref p0), (1, .int p1), (2, .int p2)], []) h (zf_oA r) h' := by
  unfold f_Arrays_copyOfRangeByte at hf
  refine zv_p (k := 2) (f' := (2, [(0, .ref p0), (1, .int p1), (2, .int p2)], [.int p2, .int p1])) zq_164 zo_164 (by with_unfolding_all rfl) ?_
  replace hf := zf_b2e hf
  obtain ⟨v1, h2, hv, hf⟩ := hf
  refine zv_c zq_164 zo_164 rfl rfl rfl rfl rfl rfl (t_f_Arrays_checkLength _ _ _ _ _ hv) ?_
  refine zv_p (k := 5) (f' := (10, [(3, .int (p2 - p1)), (0, .ref p0), (1, .int p1), (2, .int p2)], [.int (p2 - p1)])) zq_164 zo_164 (by with_unfolding_all rfl) ?_
  replace hf := zf_b2e hf
  obtain ⟨q3, h4, hv, hf⟩ := hf
  refine zv_newa zq_164 zo_164 rfl rfl hv ?_
  refine zv_p (k := 6) (f' := (20, [(4, .ref q3), (3, .int (p2 - p1)), (0, .ref p0), (1, .int p1), (2, .int p2)], [.ref p0, .int (0 : Int32), .ref q3, .int p1, .ref p0])) zq_164 zo_164 (by with_unfolding_all rfl) ?_
  replace hf := zf_be hf
  obtain ⟨v5, hv, hf⟩ := hf
  refine zv_len zq_164 zo_164 rfl hv ?_
  refine zv_p (k := 3) (f' := (24, [(4, .ref q3), (3, .int (p2 - p1)), (0, .ref p0), (1, .int p1), (2, .int p2)], [.int (p2 - p1), .int (v5 - p1), .int (0 : Int32), .ref q3, .int p1, .ref p0])) zq_164 zo_164 (by with_unfolding_all rfl) ?_
  refine zv_mm1 zq_164 zo_164 rfl rfl rfl ?_
  replace hf := zf_be hf
  obtain ⟨h6, hv, hf⟩ := hf
  refine zv_cpy zq_164 zo_164 rfl rfl rfl hv ?_
  refine zv_p (k := 1) (f' := (32, [(4, .ref q3), (3, .int (p2 - p1)), (0, .ref p0), (1, .int p1), (2, .int p2)], [.ref q3])) zq_164 zo_164 (by with_unfolding_all rfl) ?_
  cases hf
  exact zv_r zq_164 zo_164 rfl rfl rfl rfl rfl
/-! Arrays.copyOfRange (arr BII)arr B -/
noncomputable def zI_163 : zd_T := [[(0, .iload_n 1, 1), (1, .ifCond .ne 9, 3), (4, .iload_n 2, 1), (5, .aload_n 0, 1), (6, .arraylength, 1), (7, .if_icmp .eq 10, 3), (10, .aload_n 0, 1), (11, .iload_n 1, 1), (12, .iload_n 2, 1), (13, .invokestatic 339, 3), (16, .areturn, 1), (17, .aload_n 0, 1), (18, .invokevirtual 310, 3), (21, .checkcast 311, 3), (24, .areturn, 1)]]
theorem zo_163 : zd_of 163 = some zI_163 := rfl
set_option maxRecDepth 100000 in
theorem zq_163 : zt_m[163]? = some (⟨"java/util/Arrays", "copyOfRange", "([BII)[B"⟩, prog_39_method_132_code, 3, some (.array (.byte)), [], 23, 3, 0, 1, 99999, 0) := rfl
set_option maxHeartbeats 1000000 in
def f_Arrays_copyOfRange (p0 : Nat) (p1 : Int32) (p2 : Int32) (h : zx_H) : Option (Nat × zx_H) :=
  if ¬ p1 = 0 then
    zf_b2 (f_Arrays_copyOfRangeByte p0 p1 p2 h) fun v1 h2 =>
    some (v1, h2)
  else
    zf_b (zf_len p0 h) fun v3 =>
    if p2 = v3 then
      zf_b2 (zf_clone p0 h) fun q4 h5 =>
      some (q4, h5)
    else
      zf_b2 (f_Arrays_copyOfRangeByte p0 p1 p2 h) fun v6 h7 =>
      some (v6, h7)
set_option maxHeartbeats 4000000 in
set_option maxRecDepth 400000 in
theorem t_f_Arrays_copyOfRange {sc : (Nat × (Nat → Int32)) × Bool} {d : Nat} (p0 : Nat) (p1 : Int32) (p2 : Int32) (h : zx_H) (r : Nat) (h' : zx_H) (hf : f_Arrays_copyOfRange p0 p1 p2 h = some (r, h')) : zx_T sc (d + 2) 163 (0, [(0, .ref p0), (1, .int p1), (2, .int p2)], []) h (zf_oA r) h' := by
  unfold f_Arrays_copyOfRange at hf
  refine zv_p (k := 1) (f' := (1, [(0, .ref p0), (1, .int p1), (2, .int p2)], [.int p1])) zq_163 zo_163 (by with_unfolding_all rfl) ?_
  replace hf := zf_ite hf
  obtain ⟨hc, hf⟩ | ⟨hc, hf⟩ := hf
  · refine zv_brT (off := 9) (tt := 10) (r := []) zq_163 zo_163 hc rfl rfl rfl ?_
    refine zv_p (k := 3) (f' := (13, [(0, .ref p0), (1, .int p1), (2, .int p2)], [.int p2, .int p1, .ref p0])) zq_163 zo_163 (by with_unfolding_all rfl) ?_
    replace hf := zf_b2e hf
    obtain ⟨v1, h2, hv, hf⟩ := hf
    refine zv_c zq_163 zo_163 rfl rfl rfl rfl rfl rfl (t_f_Arrays_copyOfRangeByte _ _ _ _ _ _ hv) ?_
    cases hf
    exact zv_r zq_163 zo_163 rfl rfl rfl rfl rfl
  · refine zv_brF (off := 9) (tt := 10) (r := []) zq_163 zo_163 hc rfl rfl rfl ?_
    refine zv_p (k := 2) (f' := (6, [(0, .ref p0), (1, .int p1), (2, .int p2)], [.ref p0, .int p2])) zq_163 zo_163 (by with_unfolding_all rfl) ?_
    replace hf := zf_be hf
    obtain ⟨v3, hv, hf⟩ := hf
    refine zv_len zq_163 zo_163 rfl hv ?_
    replace hf := zf_ite hf
    obtain ⟨hc, hf⟩ | ⟨hc, hf⟩ := hf
    · refine zv_brT (off := 10) (tt := 17) (r := []) zq_163 zo_163 hc rfl rfl rfl ?_
      refine zv_p (k := 1) (f' := (18, [(0, .ref p0), (1, .int p1), (2, .int p2)], [.ref p0])) zq_163 zo_163 (by with_unfolding_all rfl) ?_
      replace hf := zf_b2e hf
      obtain ⟨q4, h5, hv, hf⟩ := hf
      refine zv_clone zq_163 zo_163 rfl rfl rfl rfl rfl hv ?_
      cases hf
      exact zv_r zq_163 zo_163 rfl rfl rfl rfl rfl
    · refine zv_brF (off := 10) (tt := 17) (r := []) zq_163 zo_163 hc rfl rfl rfl ?_
      refine zv_p (k := 3) (f' := (13, [(0, .ref p0), (1, .int p1), (2, .int p2)], [.int p2, .int p1, .ref p0])) zq_163 zo_163 (by with_unfolding_all rfl) ?_
      replace hf := zf_b2e hf
      obtain ⟨v6, h7, hv, hf⟩ := hf
      refine zv_c zq_163 zo_163 rfl rfl rfl rfl rfl rfl (t_f_Arrays_copyOfRangeByte _ _ _ _ _ _ hv) ?_
      cases hf
      exact zv_r zq_163 zo_163 rfl rfl rfl rfl rfl
/-! String.init (Ljava/lang/AbstractStringBuilder;Ljava/lang/Void;)V -/
noncomputable def zI_159 : zd_T := [[(0, .aload_n 0, 1), (1, .invokespecial 1, 3), (4, .aload_n 1, 1), (5, .invokevirtual 552, 3), (8, .astore_n 3, 1), (9, .aload_n 1, 1), (10, .invokevirtual 549, 3), (13, .istore 4, 2), (15, .aload_n 1, 1), (16, .invokevirtual 1047, 3), (19, .ifCond .eq 22, 3), (22, .aload_n 0, 1), (23, .iconst 0, 1), (24, .putfield 15, 3), (27, .aload_n 0, 1), (28, .aload_n 3, 1), (29, .iconst 0, 1), (30, .iload 4, 2)], [(32, .invokestatic 54, 3), (35, .putfield 9, 3), (38, .goto 59, 3), (41, .getstatic 38, 3), (44, .ifCond .eq 35, 3), (47, .aload_n 1, 1), (48, .getfield 1048, 3), (51, .ifCond .eq 28, 3), (54, .aload_n 0, 1), (55, .aload_n 3, 1), (56, .iconst 0, 1), (57, .iload 4, 2), (59, .invokestatic 1051, 3), (62, .putfield 9, 3)], [(65, .aload_n 0, 1), (66, .aload_n 0, 1), (67, .getfield 9, 3), (70, .iload 4, 2), (72, .invokestatic 47, 3), (75, .putfield 15, 3), (78, .return_, 1), (79, .aload_n 0, 1), (80, .iconst 1, 1), (81, .putfield 15, 3), (84, .aload_n 0, 1), (85, .aload_n 3, 1), (86, .iconst 0, 1), (87, .iload 4, 2), (89, .iconst 1, 1), (90, .ishl, 1), (91, .invokestatic 54, 3), (94, .putfield 9, 3)], [(97, .return_, 1)]]
theorem zo_159 : zd_of 159 = some zI_159 := rfl
set_option maxRecDepth 100000 in
theorem zq_159 : zt_m[159]? = some (⟨"java/lang/String", "<init>", "(Ljava/lang/AbstractStringBuilder;Ljava/lang/Void;)V"⟩, prog_31_method_150_code, 5, none, [], 0, 2, 0, 2, 99999, 0) := rfl
set_option maxHeartbeats 1000000 in
def f_String_initq2_79 (p0 : Nat) (p1 : Nat) (p2 : Int32) (h : zx_H) : Option (Unit × zx_H) :=
  zf_b (zf_put 0 1 p0 (.int (1 : Int32)) h) fun h1 =>
  zf_b2 (f_Arrays_copyOfRange p1 (0 : Int32) (p2 <<< ((1 : Int32) &&& 31)) h1) fun v2 h3 =>
  zf_b (zf_put 0 0 p0 (.ref v2) h3) fun h4 =>
  some ((), h4)
set_option maxHeartbeats 4000000 in
set_option maxRecDepth 400000 in
theorem t_f_String_initq2_79 {sc : (Nat × (Nat → Int32)) × Bool} {d : Nat} (p0 : Nat) (p1 : Nat) (p2 : Int32) (h : zx_H) (r : Unit) (h' : zx_H) (hf : f_String_initq2_79 p0 p1 p2 h = some (r, h')) : zx_T sc (d + 3) 159 (79, [(0, .ref p0), (3, .ref p1), (4, .int p2)], []) h (zf_oV r) h' := by
  unfold f_String_initq2_79 at hf
  refine zv_p (k := 2) (f' := (81, [(0, .ref p0), (3, .ref p1), (4, .int p2)], [.int (1 : Int32), .ref p0])) zq_159 zo_159 (by with_unfolding_all rfl) ?_
  replace hf := zf_be hf
  obtain ⟨h1, hv, hf⟩ := hf
  refine zv_pf zq_159 zo_159 rfl rfl rfl rfl hv ?_
  refine zv_p (k := 6) (f' := (91, [(0, .ref p0), (3, .ref p1), (4, .int p2)], [.int (p2 <<< ((1 : Int32) &&& 31)), .int (0 : Int32), .ref p1, .ref p0])) zq_159 zo_159 (by with_unfolding_all rfl) ?_
  replace hf := zf_b2e hf
  obtain ⟨v2, h3, hv, hf⟩ := hf
  refine zv_c zq_159 zo_159 rfl rfl rfl rfl rfl rfl (t_f_Arrays_copyOfRange _ _ _ _ _ _ hv) ?_
  replace hf := zf_be hf
  obtain ⟨h4, hv, hf⟩ := hf
  refine zv_pf zq_159 zo_159 rfl rfl rfl rfl hv ?_
  cases hf
  exact zv_r zq_159 zo_159 rfl rfl rfl rfl rfl
set_option maxHeartbeats 1000000 in
def f_String_initq2 (p0 : Nat) (p1 : Nat) (p2 : Option Nat) (h : zx_H) : Option (Unit × zx_H) :=
  zf_b2 (fv_1 p1 h) fun v1 h2 =>
  zf_b2 (fv_2 p1 h2) fun v3 h4 =>
  zf_b2 (fv_0 p1 h4) fun v5 h6 =>
  if v5 = 0 then
    if (1 : Int32) = 0 then
      f_String_initq2_79 p0 v1 v3 h6
    else
      zf_b (zf_I 1 2 p1 h6) fun v7 =>
      if v7 = 0 then
        f_String_initq2_79 p0 v1 v3 h6
      else
        none
  else
    zf_b (zf_put 0 1 p0 (.int (0 : Int32)) h6) fun h8 =>
    zf_b2 (f_Arrays_copyOfRange v1 (0 : Int32) v3 h8) fun v9 h10 =>
    zf_b (zf_put 0 0 p0 (.ref v9) h10) fun h11 =>
    some ((), h11)
set_option maxHeartbeats 4000000 in
set_option maxRecDepth 400000 in
theorem t_f_String_initq2 {sc : (Nat × (Nat → Int32)) × Bool} {d : Nat} (p0 : Nat) (p1 : Nat) (p2 : Option Nat) (h : zx_H) (r : Unit) (h' : zx_H) (hf : f_String_initq2 p0 p1 p2 h = some (r, h')) : zx_T sc (d + 3) 159 (0, [(0, .ref p0), (1, .ref p1), (2, zx_rf p2)], []) h (zf_oV r) h' := by
  unfold f_String_initq2 at hf
  refine zv_p (k := 1) (f' := (1, [(0, .ref p0), (1, .ref p1), (2, zx_rf p2)], [.ref p0])) zq_159 zo_159 (by cases p2 <;> with_unfolding_all rfl) ?_
  refine zv_oi zq_159 zo_159 rfl rfl rfl ?_
  refine zv_p (k := 1) (f' := (5, [(0, .ref p0), (1, .ref p1), (2, zx_rf p2)], [.ref p1])) zq_159 zo_159 (by cases p2 <;> with_unfolding_all rfl) ?_
  replace hf := zf_b2e hf
  obtain ⟨v1, h2, hv, hf⟩ := hf
  obtain ⟨mj, hcl, hrun⟩ := tv_1 hv
  refine zv_c zq_159 zo_159 rfl rfl rfl rfl rfl (hcl _ _ _ _ _ _ rfl rfl rfl rfl) hrun ?_
  refine zv_p (k := 2) (f' := (10, [(3, .ref v1), (0, .ref p0), (1, .ref p1), (2, zx_rf p2)], [.ref p1])) zq_159 zo_159 (by cases p2 <;> with_unfolding_all rfl) ?_
  replace hf := zf_b2e hf
  obtain ⟨v3, h4, hv, hf⟩ := hf
  obtain ⟨mj, hcl, hrun⟩ := tv_2 hv
  refine zv_c zq_159 zo_159 rfl rfl rfl rfl rfl (hcl _ _ _ _ _ _ rfl rfl rfl rfl) hrun ?_
  refine zv_p (k := 2) (f' := (16, [(4, .int v3), (3, .ref v1), (0, .ref p0), (1, .ref p1), (2, zx_rf p2)], [.ref p1])) zq_159 zo_159 (by cases p2 <;> with_unfolding_all rfl) ?_
  replace hf := zf_b2e hf
  obtain ⟨v5, h6, hv, hf⟩ := hf
  obtain ⟨mj, hcl, hrun⟩ := tv_0 hv
  refine zv_c zq_159 zo_159 rfl rfl rfl rfl rfl (hcl _ _ _ _ _ _ rfl rfl rfl rfl) hrun ?_
  replace hf := zf_ite hf
  obtain ⟨hc, hf⟩ | ⟨hc, hf⟩ := hf
  · refine zv_brT (off := 22) (tt := 41) (r := []) zq_159 zo_159 hc rfl rfl rfl ?_
    refine zv_gs zq_159 zo_159 rfl rfl rfl ?_
    replace hf := zf_ite hf
    obtain ⟨hc, hf⟩ | ⟨hc, hf⟩ := hf
    · refine zv_brT (off := 35) (tt := 79) (r := []) zq_159 zo_159 hc rfl rfl rfl ?_
      refine zv_pick (lv' := [(0, .ref p0), (3, .ref v1), (4, .int v3)]) [0, 3, 4] (by cases p2 <;> rfl) rfl ?_
      exact t_f_String_initq2_79 _ _ _ _ _ _ hf
    · refine zv_brF (off := 35) (tt := 79) (r := []) zq_159 zo_159 hc rfl rfl rfl ?_
      refine zv_p (k := 1) (f' := (48, [(4, .int v3), (3, .ref v1), (0, .ref p0), (1, .ref p1), (2, zx_rf p2)], [.ref p1])) zq_159 zo_159 (by cases p2 <;> with_unfolding_all rfl) ?_
      replace hf := zf_be hf
      obtain ⟨v7, hv, hf⟩ := hf
      refine zv_gf zq_159 zo_159 rfl rfl rfl (zf_Ie hv) ?_
      replace hf := zf_ite hf
      obtain ⟨hc, hf⟩ | ⟨hc, hf⟩ := hf
      · refine zv_brT (off := 28) (tt := 79) (r := []) zq_159 zo_159 hc rfl rfl rfl ?_
        refine zv_pick (lv' := [(0, .ref p0), (3, .ref v1), (4, .int v3)]) [0, 3, 4] (by cases p2 <;> rfl) rfl ?_
        exact t_f_String_initq2_79 _ _ _ _ _ _ hf
      · refine zv_brF (off := 28) (tt := 79) (r := []) zq_159 zo_159 hc rfl rfl rfl ?_
        refine zv_p (k := 4) (f' := (59, [(4, .int v3), (3, .ref v1), (0, .ref p0), (1, .ref p1), (2, zx_rf p2)], [.int v3, .int (0 : Int32), .ref v1, .ref p0])) zq_159 zo_159 (by cases p2 <;> with_unfolding_all rfl) ?_
        cases hf
  · refine zv_brF (off := 22) (tt := 41) (r := []) zq_159 zo_159 hc rfl rfl rfl ?_
    refine zv_p (k := 2) (f' := (24, [(4, .int v3), (3, .ref v1), (0, .ref p0), (1, .ref p1), (2, zx_rf p2)], [.int (0 : Int32), .ref p0])) zq_159 zo_159 (by cases p2 <;> with_unfolding_all rfl) ?_
    replace hf := zf_be hf
    obtain ⟨h8, hv, hf⟩ := hf
    refine zv_pf zq_159 zo_159 rfl rfl rfl rfl hv ?_
    refine zv_p (k := 4) (f' := (32, [(4, .int v3), (3, .ref v1), (0, .ref p0), (1, .ref p1), (2, zx_rf p2)], [.int v3, .int (0 : Int32), .ref v1, .ref p0])) zq_159 zo_159 (by cases p2 <;> with_unfolding_all rfl) ?_
    replace hf := zf_b2e hf
    obtain ⟨v9, h10, hv, hf⟩ := hf
    refine zv_c zq_159 zo_159 rfl rfl rfl rfl rfl rfl (t_f_Arrays_copyOfRange _ _ _ _ _ _ hv) ?_
    replace hf := zf_be hf
    obtain ⟨h11, hv, hf⟩ := hf
    refine zv_pf zq_159 zo_159 rfl rfl rfl rfl hv ?_
    refine zv_p (k := 1) (f' := (97, [(4, .int v3), (3, .ref v1), (0, .ref p0), (1, .ref p1), (2, zx_rf p2)], [])) zq_159 zo_159 (by cases p2 <;> with_unfolding_all rfl) ?_
    cases hf
    exact zv_r zq_159 zo_159 rfl rfl rfl rfl rfl
/-! String.init (Ljava/lang/StringBuilder;)V -/
noncomputable def zI_158 : zd_T := [[(0, .aload_n 0, 1), (1, .aload_n 1, 1), (2, .aconst_null, 1), (3, .invokespecial 489, 3), (6, .return_, 1)]]
theorem zo_158 : zd_of 158 = some zI_158 := rfl
set_option maxRecDepth 100000 in
theorem zq_158 : zt_m[158]? = some (⟨"java/lang/String", "<init>", "(Ljava/lang/StringBuilder;)V"⟩, prog_31_method_53_code, 2, none, [], 0, 1, 0, 2, 99999, 0) := rfl
set_option maxHeartbeats 1000000 in
def f_String_init (p0 : Nat) (p1 : Nat) (h : zx_H) : Option (Unit × zx_H) :=
  zf_b2 (f_String_initq2 p0 p1 none h) fun _ h2 =>
  some ((), h2)
set_option maxHeartbeats 4000000 in
set_option maxRecDepth 400000 in
theorem t_f_String_init {sc : (Nat × (Nat → Int32)) × Bool} {d : Nat} (p0 : Nat) (p1 : Nat) (h : zx_H) (r : Unit) (h' : zx_H) (hf : f_String_init p0 p1 h = some (r, h')) : zx_T sc (d + 4) 158 (0, [(0, .ref p0), (1, .ref p1)], []) h (zf_oV r) h' := by
  unfold f_String_init at hf
  refine zv_p (k := 3) (f' := (3, [(0, .ref p0), (1, .ref p1)], [.null, .ref p1, .ref p0])) zq_158 zo_158 (by with_unfolding_all rfl) ?_
  replace hf := zf_b2e hf
  obtain ⟨v1, h2, hv, hf⟩ := hf
  refine zv_c zq_158 zo_158 rfl rfl rfl rfl rfl rfl (t_f_String_initq2 _ _ _ _ _ _ hv) ?_
  cases hf
  exact zv_r zq_158 zo_158 rfl rfl rfl rfl rfl
/-! StringBuilder.toString ()Ljava/lang/String; -/
noncomputable def zI_157 : zd_T := [[(0, .new 18, 3), (3, .dup, 1), (4, .aload_n 0, 1), (5, .invokespecial 137, 3), (8, .areturn, 1)]]
theorem zo_157 : zd_of 157 = some zI_157 := rfl
set_option maxRecDepth 100000 in
theorem zq_157 : zt_m[157]? = some (⟨"java/lang/StringBuilder", "toString", "()Ljava/lang/String;"⟩, prog_32_method_42_code, 1, some (.object "java/lang/String"), [], 1, 0, 0, 0, 0, 0) := rfl
set_option maxHeartbeats 1000000 in
def f_StringBuilder_toString (p0 : Nat) (h : zx_H) : Option (Nat × zx_H) :=
  zf_b2 (zf_new 0 h) fun q1 h2 =>
  zf_b2 (f_String_init q1 p0 h2) fun _ h4 =>
  some (q1, h4)
set_option maxHeartbeats 4000000 in
set_option maxRecDepth 400000 in
theorem t_f_StringBuilder_toString {sc : (Nat × (Nat → Int32)) × Bool} {d : Nat} (p0 : Nat) (h : zx_H) (r : Nat) (h' : zx_H) (hf : f_StringBuilder_toString p0 h = some (r, h')) : zx_T sc (d + 5) 157 (0, [(0, .ref p0)], []) h (zf_oA r) h' := by
  unfold f_StringBuilder_toString at hf
  replace hf := zf_b2e hf
  obtain ⟨q1, h2, hv, hf⟩ := hf
  refine zv_new zq_157 zo_157 rfl rfl rfl hv ?_
  refine zv_p (k := 2) (f' := (5, [(0, .ref p0)], [.ref p0, .ref q1, .ref q1])) zq_157 zo_157 (by with_unfolding_all rfl) ?_
  replace hf := zf_b2e hf
  obtain ⟨v3, h4, hv, hf⟩ := hf
  refine zv_c zq_157 zo_157 rfl rfl rfl rfl rfl rfl (t_f_String_init _ _ _ _ _ hv) ?_
  cases hf
  exact zv_r zq_157 zo_157 rfl rfl rfl rfl rfl
/-! ColumnVaultLaw.text (arr I)Ljava/lang/String; -/
noncomputable def zI_130 : zd_T := [[(0, .new 13, 3), (3, .dup, 1), (4, .invokespecial 15, 3), (7, .astore_n 1, 1), (8, .aload_n 0, 1), (9, .iconst 4, 1), (10, .invokestatic 16, 3), (13, .ifCond .ne 14, 3), (16, .iconst 1, 1), (17, .aload_n 0, 1), (18, .bipush 7, 2), (20, .invokestatic 16, 3), (23, .iadd, 1), (24, .goto 10, 3), (27, .iconst 1, 1), (28, .aload_n 0, 1), (29, .iconst 2, 1), (30, .invokestatic 16, 3)], [(33, .iadd, 1), (34, .istore_n 2, 1), (35, .iload_n 2, 1), (36, .ifCond .le 40, 3), (39, .aload_n 1, 1), (40, .bipush 97, 2), (42, .aload_n 0, 1), (43, .iconst 3, 1), (44, .invokestatic 16, 3), (47, .ifCond .ne 12, 3), (50, .aload_n 0, 1), (51, .bipush 26, 2), (53, .invokestatic 16, 3), (56, .goto 8, 3), (59, .aload_n 0, 1), (60, .iconst 3, 1), (61, .invokestatic 16, 3)], [(64, .iadd, 1), (65, .i2c, 1), (66, .invokevirtual 22, 3), (69, .pop, 1), (70, .iinc 2 (-1), 3), (73, .goto (-38), 3), (76, .aload_n 1, 1), (77, .invokevirtual 26, 3), (80, .areturn, 1)]]
theorem zo_130 : zd_of 130 = some zI_130 := rfl
set_option maxRecDepth 100000 in
theorem zq_130 : zt_m[130]? = some (⟨"ColumnVaultLaw", "text", "([I)Ljava/lang/String;"⟩, method_4_code, 3, some (.object "java/lang/String"), [], 17, 1, 0, 1, 99999, 0) := rfl
set_option maxHeartbeats 1000000 in
def f_ColumnVaultLaw_text_35 : Nat → Nat → Nat → Int32 → zx_H → Option (Nat × zx_H)
  | 0, _, _, _, _ => none
  | n + 1, p0, p1, p2, h =>
    if p2 ≤ 0 then
      zf_b (zf_is 1 p1 h) fun _ =>
      zf_b2 (f_StringBuilder_toString p1 h) fun v1 h2 =>
      some (v1, h2)
    else
      zf_b2 (f_ColumnVaultLaw_draw p0 (3 : Int32) h) fun v3 h4 =>
      if ¬ v3 = 0 then
        zf_b2 (f_ColumnVaultLaw_draw p0 (3 : Int32) h4) fun v5 h6 =>
        zf_b (zf_is 1 p1 h6) fun _ =>
        zf_b2 (f_StringBuilder_append p1 (((((97 : Int32) + v5)).toUInt32 % 65536).toInt32) h6) fun v7 h8 =>
        (f_ColumnVaultLaw_text_35 n) p0 p1 (p2 + (-1 : Int32)) h8
      else
        zf_b2 (f_ColumnVaultLaw_draw p0 (26 : Int32) h4) fun v9 h10 =>
        zf_b (zf_is 1 p1 h10) fun _ =>
        zf_b2 (f_StringBuilder_append p1 (((((97 : Int32) + v9)).toUInt32 % 65536).toInt32) h10) fun v11 h12 =>
        (f_ColumnVaultLaw_text_35 n) p0 p1 (p2 + (-1 : Int32)) h12
set_option maxHeartbeats 4000000 in
set_option maxRecDepth 400000 in
theorem t_f_ColumnVaultLaw_text_35 {sc : (Nat × (Nat → Int32)) × Bool} {d : Nat} : ∀ (n : Nat) (p0 : Nat) (p1 : Nat) (p2 : Int32) (h : zx_H) (r : Nat) (h' : zx_H), f_ColumnVaultLaw_text_35 n p0 p1 p2 h = some (r, h') → zx_T sc (d + 6) 130 (35, [(0, .ref p0), (1, .ref p1), (2, .int p2)], []) h (zf_oA r) h' := by
  intro n
  induction n with
  | zero => intro p0 p1 p2 h r h' hf; cases hf
  | succ n ih =>
    intro p0 p1 p2 h r h' hf
    unfold f_ColumnVaultLaw_text_35 at hf
    refine zv_p (k := 1) (f' := (36, [(0, .ref p0), (1, .ref p1), (2, .int p2)], [.int p2])) zq_130 zo_130 (by with_unfolding_all rfl) ?_
    replace hf := zf_ite hf
    obtain ⟨hc, hf⟩ | ⟨hc, hf⟩ := hf
    · refine zv_brT (off := 40) (tt := 76) (r := []) zq_130 zo_130 hc rfl rfl rfl ?_
      refine zv_p (k := 1) (f' := (77, [(0, .ref p0), (1, .ref p1), (2, .int p2)], [.ref p1])) zq_130 zo_130 (by with_unfolding_all rfl) ?_
      replace hf := zf_be hf
      obtain ⟨_, ho, hf⟩ := hf
      replace hf := zf_b2e hf
      obtain ⟨v1, h2, hv, hf⟩ := hf
      refine zv_c zq_130 zo_130 rfl rfl rfl rfl rfl (zv_cv rfl rfl rfl (zf_ise ho) rfl) (t_f_StringBuilder_toString _ _ _ _ hv) ?_
      cases hf
      exact zv_r zq_130 zo_130 rfl rfl rfl rfl rfl
    · refine zv_brF (off := 40) (tt := 76) (r := []) zq_130 zo_130 hc rfl rfl rfl ?_
      refine zv_p (k := 4) (f' := (44, [(0, .ref p0), (1, .ref p1), (2, .int p2)], [.int (3 : Int32), .ref p0, .int (97 : Int32), .ref p1])) zq_130 zo_130 (by with_unfolding_all rfl) ?_
      replace hf := zf_b2e hf
      obtain ⟨v3, h4, hv, hf⟩ := hf
      refine zv_c zq_130 zo_130 rfl rfl rfl rfl rfl rfl (t_f_ColumnVaultLaw_draw _ _ _ _ _ hv) ?_
      replace hf := zf_ite hf
      obtain ⟨hc, hf⟩ | ⟨hc, hf⟩ := hf
      · refine zv_brT (off := 12) (tt := 59) (r := [.int (97 : Int32), .ref p1]) zq_130 zo_130 hc rfl rfl rfl ?_
        refine zv_p (k := 2) (f' := (61, [(0, .ref p0), (1, .ref p1), (2, .int p2)], [.int (3 : Int32), .ref p0, .int (97 : Int32), .ref p1])) zq_130 zo_130 (by with_unfolding_all rfl) ?_
        replace hf := zf_b2e hf
        obtain ⟨v5, h6, hv, hf⟩ := hf
        refine zv_c zq_130 zo_130 rfl rfl rfl rfl rfl rfl (t_f_ColumnVaultLaw_draw _ _ _ _ _ hv) ?_
        refine zv_p (k := 2) (f' := (66, [(0, .ref p0), (1, .ref p1), (2, .int p2)], [.int ((((97 : Int32) + v5)).toUInt32 % 65536).toInt32, .ref p1])) zq_130 zo_130 (by with_unfolding_all rfl) ?_
        replace hf := zf_be hf
        obtain ⟨_, ho, hf⟩ := hf
        replace hf := zf_b2e hf
        obtain ⟨v7, h8, hv, hf⟩ := hf
        refine zv_c zq_130 zo_130 rfl rfl rfl rfl rfl (zv_cv rfl rfl rfl (zf_ise ho) rfl) (t_f_StringBuilder_append _ _ _ _ _ hv) ?_
        refine zv_p (k := 3) (f' := (35, [(2, .int (p2 + (-1 : Int32))), (0, .ref p0), (1, .ref p1)], [])) zq_130 zo_130 (by with_unfolding_all rfl) ?_
        refine zv_pick (lv' := [(0, .ref p0), (1, .ref p1), (2, .int (p2 + (-1 : Int32)))]) [0, 1, 2] rfl rfl ?_
        exact ih _ _ _ _ _ _ hf
      · refine zv_brF (off := 12) (tt := 59) (r := [.int (97 : Int32), .ref p1]) zq_130 zo_130 hc rfl rfl rfl ?_
        refine zv_p (k := 2) (f' := (53, [(0, .ref p0), (1, .ref p1), (2, .int p2)], [.int (26 : Int32), .ref p0, .int (97 : Int32), .ref p1])) zq_130 zo_130 (by with_unfolding_all rfl) ?_
        replace hf := zf_b2e hf
        obtain ⟨v9, h10, hv, hf⟩ := hf
        refine zv_c zq_130 zo_130 rfl rfl rfl rfl rfl rfl (t_f_ColumnVaultLaw_draw _ _ _ _ _ hv) ?_
        refine zv_p (k := 3) (f' := (66, [(0, .ref p0), (1, .ref p1), (2, .int p2)], [.int ((((97 : Int32) + v9)).toUInt32 % 65536).toInt32, .ref p1])) zq_130 zo_130 (by with_unfolding_all rfl) ?_
        replace hf := zf_be hf
        obtain ⟨_, ho, hf⟩ := hf
        replace hf := zf_b2e hf
        obtain ⟨v11, h12, hv, hf⟩ := hf
        refine zv_c zq_130 zo_130 rfl rfl rfl rfl rfl (zv_cv rfl rfl rfl (zf_ise ho) rfl) (t_f_StringBuilder_append _ _ _ _ _ hv) ?_
        refine zv_p (k := 3) (f' := (35, [(2, .int (p2 + (-1 : Int32))), (0, .ref p0), (1, .ref p1)], [])) zq_130 zo_130 (by with_unfolding_all rfl) ?_
        refine zv_pick (lv' := [(0, .ref p0), (1, .ref p1), (2, .int (p2 + (-1 : Int32)))]) [0, 1, 2] rfl rfl ?_
        exact ih _ _ _ _ _ _ hf
