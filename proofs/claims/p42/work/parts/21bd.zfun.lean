set_option maxHeartbeats 1000000 in
def f_Sheet_placesUnlike_4 : Nat → Nat → Nat → Int32 → Int32 → zx_H → Option (Int32 × zx_H)
  | 0, _, _, _, _, _ => none
  | n + 1, p0, p1, p2, p3, h =>
    zf_b (zf_I 10 4 p0 h) fun v1 =>
    if v1 ≤ p3 then
      some (p2, h)
    else
      zf_b (zf_is 10 p0 h) fun _ =>
      zf_b2 (f_Sheet_rowInOrder p0 p3 h) fun v2 h3 =>
      zf_b (zf_is 10 p1 h3) fun _ =>
      zf_b2 (f_Sheet_rowInOrder p1 p3 h3) fun v4 h5 =>
      if ¬ v2 = v4 then
        (f_Sheet_placesUnlike_4 n) p0 p1 (p2 + (1 : Int32)) (p3 + (1 : Int32)) h5
      else
        (f_Sheet_placesUnlike_4 n) p0 p1 (p2 + (0 : Int32)) (p3 + (1 : Int32)) h5
set_option maxHeartbeats 4000000 in
set_option maxRecDepth 400000 in
theorem t_f_Sheet_placesUnlike_4 {sc : (Nat × (Nat → Int32)) × Bool} {d : Nat} : ∀ (n : Nat) (p0 : Nat) (p1 : Nat) (p2 : Int32) (p3 : Int32) (h : zx_H) (r : Int32) (h' : zx_H), f_Sheet_placesUnlike_4 n p0 p1 p2 p3 h = some (r, h') → zx_T sc (d + 2) 207 (4, [(0, .ref p0), (1, .ref p1), (2, .int p2), (3, .int p3)], []) h (zf_oI r) h' := by
  intro n
  induction n with
  | zero => intro p0 p1 p2 p3 h r h' hf; cases hf
  | succ n ih =>
    intro p0 p1 p2 p3 h r h' hf
    unfold f_Sheet_placesUnlike_4 at hf
    refine zv_p (k := 2) (f' := (6, [(0, .ref p0), (1, .ref p1), (2, .int p2), (3, .int p3)], [.ref p0, .int p3])) zq_207 zo_207 (by with_unfolding_all rfl) ?_
    replace hf := zf_be hf
    obtain ⟨v1, hv, hf⟩ := hf
    refine zv_gf zq_207 zo_207 rfl rfl rfl (zf_Ie hv) ?_
    replace hf := zf_ite hf
    obtain ⟨hc, hf⟩ | ⟨hc, hf⟩ := hf
    · refine zv_brT (off := 30) (tt := 39) (r := []) zq_207 zo_207 hc rfl rfl rfl ?_
      refine zv_p (k := 1) (f' := (40, [(0, .ref p0), (1, .ref p1), (2, .int p2), (3, .int p3)], [.int p2])) zq_207 zo_207 (by with_unfolding_all rfl) ?_
      cases hf
      exact zv_rn zq_207 zo_207 rfl rfl
    · refine zv_brF (off := 30) (tt := 39) (r := []) zq_207 zo_207 hc rfl rfl rfl ?_
      refine zv_p (k := 3) (f' := (15, [(0, .ref p0), (1, .ref p1), (2, .int p2), (3, .int p3)], [.int p3, .ref p0, .int p2])) zq_207 zo_207 (by with_unfolding_all rfl) ?_
      replace hf := zf_be hf
      obtain ⟨_, ho, hf⟩ := hf
      replace hf := zf_b2e hf
      obtain ⟨v2, h3, hv, hf⟩ := hf
      refine zv_c zq_207 zo_207 rfl rfl rfl rfl rfl (zv_cv rfl rfl rfl (zf_ise ho) rfl) (t_f_Sheet_rowInOrder _ _ _ _ _ hv) ?_
      refine zv_p (k := 2) (f' := (20, [(0, .ref p0), (1, .ref p1), (2, .int p2), (3, .int p3)], [.int p3, .ref p1, .int v2, .int p2])) zq_207 zo_207 (by with_unfolding_all rfl) ?_
      replace hf := zf_be hf
      obtain ⟨_, ho, hf⟩ := hf
      replace hf := zf_b2e hf
      obtain ⟨v4, h5, hv, hf⟩ := hf
      refine zv_c zq_207 zo_207 rfl rfl rfl rfl rfl (zv_cv rfl rfl rfl (zf_ise ho) rfl) (t_f_Sheet_rowInOrder _ _ _ _ _ hv) ?_
      replace hf := zf_ite hf
      obtain ⟨hc, hf⟩ | ⟨hc, hf⟩ := hf
      · refine zv_brT (off := 7) (tt := 30) (r := [.int p2]) zq_207 zo_207 hc rfl rfl rfl ?_
        refine zv_p (k := 5) (f' := (4, [(3, .int (p3 + (1 : Int32))), (2, .int (p2 + (1 : Int32))), (0, .ref p0), (1, .ref p1)], [])) zq_207 zo_207 (by with_unfolding_all rfl) ?_
        refine zv_pick (lv' := [(0, .ref p0), (1, .ref p1), (2, .int (p2 + (1 : Int32))), (3, .int (p3 + (1 : Int32)))]) [0, 1, 2, 3] rfl rfl ?_
        exact ih _ _ _ _ _ _ _ hf
      · refine zv_brF (off := 7) (tt := 30) (r := [.int p2]) zq_207 zo_207 hc rfl rfl rfl ?_
        refine zv_p (k := 6) (f' := (4, [(3, .int (p3 + (1 : Int32))), (2, .int (p2 + (0 : Int32))), (0, .ref p0), (1, .ref p1)], [])) zq_207 zo_207 (by with_unfolding_all rfl) ?_
        refine zv_pick (lv' := [(0, .ref p0), (1, .ref p1), (2, .int (p2 + (0 : Int32))), (3, .int (p3 + (1 : Int32)))]) [0, 1, 2, 3] rfl rfl ?_
        exact ih _ _ _ _ _ _ _ hf
set_option maxHeartbeats 1000000 in
def f_Sheet_placesUnlike (p0 : Nat) (p1 : Nat) (h : zx_H) : Option (Int32 × zx_H) :=
  f_Sheet_placesUnlike_4 zF p0 p1 (0 : Int32) (0 : Int32) h
set_option maxHeartbeats 4000000 in
set_option maxRecDepth 400000 in
theorem t_f_Sheet_placesUnlike {sc : (Nat × (Nat → Int32)) × Bool} {d : Nat} (p0 : Nat) (p1 : Nat) (h : zx_H) (r : Int32) (h' : zx_H) (hf : f_Sheet_placesUnlike p0 p1 h = some (r, h')) : zx_T sc (d + 2) 207 (0, [(0, .ref p0), (1, .ref p1)], []) h (zf_oI r) h' := by
  unfold f_Sheet_placesUnlike at hf
  refine zv_p (k := 4) (f' := (4, [(3, .int (0 : Int32)), (2, .int (0 : Int32)), (0, .ref p0), (1, .ref p1)], [])) zq_207 zo_207 (by with_unfolding_all rfl) ?_
  refine zv_pick (lv' := [(0, .ref p0), (1, .ref p1), (2, .int (0 : Int32)), (3, .int (0 : Int32))]) [0, 1, 2, 3] rfl rfl ?_
  exact t_f_Sheet_placesUnlike_4 zF _ _ _ _ _ _ _ hf
/-! ColumnVault.sort (IIZZ)I -/
noncomputable def zI_204 : zd_T := [[(0, .aload_n 0, 1), (1, .iload_n 1, 1), (2, .iload_n 2, 1), (3, .invokevirtual 91, 3), (6, .astore 5, 2), (8, .aload_n 0, 1), (9, .iload_n 1, 1), (10, .invokevirtual 75, 3), (13, .astore 6, 2), (15, .aload 6, 2), (17, .iload_n 2, 1), (18, .iload_n 3, 1), (19, .iload 4, 2), (21, .invokevirtual 161, 3), (24, .aload 6, 2), (26, .aload 5, 2), (28, .invokevirtual 165, 3), (31, .ireturn, 1)], []]
theorem zo_204 : zd_of 204 = some zI_204 := rfl
set_option maxRecDepth 100000 in
theorem zq_204 : zt_m[204]? = some (⟨"ColumnVault", "sort", "(IIZZ)I"⟩, prog_1_method_12_code, 7, some (.int), [], 12, 4, 0, 0, 0, 0) := rfl
set_option maxHeartbeats 1000000 in
def f_ColumnVault_sort (p0 : Nat) (p1 : Int32) (p2 : Int32) (p3 : Int32) (p4 : Int32) (h : zx_H) : Option ((Int32 ⊕ Nat) × zx_H) :=
  zf_b (zf_is 12 p0 h) fun _ =>
  zf_b3 (f_ColumnVault_sheetWith p0 p1 p2 h) fun v1 h2 =>
  zf_b (zf_is 12 p0 h2) fun _ =>
  zf_b3 (f_ColumnVault_nextSheetOf p0 p1 h2) fun v4 h5 =>
  zf_b (zf_is 10 v4 h5) fun _ =>
  zf_b2 (f_Sheet_orderBy v4 p2 p3 p4 h5) fun _ h8 =>
  zf_b (zf_is 10 v4 h8) fun _ =>
  zf_b2 (f_Sheet_placesUnlike v4 v1 h8) fun v9 h10 =>
  some (.inl v9, h10)
set_option maxHeartbeats 4000000 in
set_option maxRecDepth 400000 in
theorem t_f_ColumnVault_sort {sc : (Nat × (Nat → Int32)) × Bool} {d : Nat} (p0 : Nat) (p1 : Int32) (p2 : Int32) (p3 : Int32) (p4 : Int32) (h : zx_H) (r : (Int32 ⊕ Nat)) (h' : zx_H) (hf : f_ColumnVault_sort p0 p1 p2 p3 p4 h = some (r, h')) : zx_T sc (d + 3) 204 (0, [(0, .ref p0), (1, .int p1), (2, .int p2), (3, .int p3), (4, .int p4)], []) h (zf_oIx r) h' := by
  unfold f_ColumnVault_sort at hf
  refine zv_p (k := 3) (f' := (3, [(0, .ref p0), (1, .int p1), (2, .int p2), (3, .int p3), (4, .int p4)], [.int p2, .int p1, .ref p0])) zq_204 zo_204 (by with_unfolding_all rfl) ?_
  replace hf := zf_be hf
  obtain ⟨_, ho, hf⟩ := hf
  replace hf := zf_b3e hf
  obtain ⟨v1, h2, hv, hf⟩ | ⟨E3, h2, hv, hf⟩ := hf
  rotate_left
  · cases hf; exact zv_cx zq_204 zo_204 rfl rfl rfl rfl rfl (zv_cv rfl rfl rfl (zf_ise ho) rfl) (t_f_ColumnVault_sheetWith _ _ _ _ _ _ hv) rfl
  refine zv_c zq_204 zo_204 rfl rfl rfl rfl rfl (zv_cv rfl rfl rfl (zf_ise ho) rfl) (t_f_ColumnVault_sheetWith _ _ _ _ _ _ hv) ?_
  refine zv_p (k := 3) (f' := (10, [(5, .ref v1), (0, .ref p0), (1, .int p1), (2, .int p2), (3, .int p3), (4, .int p4)], [.int p1, .ref p0])) zq_204 zo_204 (by with_unfolding_all rfl) ?_
  replace hf := zf_be hf
  obtain ⟨_, ho, hf⟩ := hf
  replace hf := zf_b3e hf
  obtain ⟨v4, h5, hv, hf⟩ | ⟨E6, h5, hv, hf⟩ := hf
  rotate_left
  · cases hf; exact zv_cx zq_204 zo_204 rfl rfl rfl rfl rfl (zv_cv rfl rfl rfl (zf_ise ho) rfl) (t_f_ColumnVault_nextSheetOf _ _ _ _ _ hv) rfl
  refine zv_c zq_204 zo_204 rfl rfl rfl rfl rfl (zv_cv rfl rfl rfl (zf_ise ho) rfl) (t_f_ColumnVault_nextSheetOf _ _ _ _ _ hv) ?_
  refine zv_p (k := 5) (f' := (21, [(6, .ref v4), (5, .ref v1), (0, .ref p0), (1, .int p1), (2, .int p2), (3, .int p3), (4, .int p4)], [.int p4, .int p3, .int p2, .ref v4])) zq_204 zo_204 (by with_unfolding_all rfl) ?_
  replace hf := zf_be hf
  obtain ⟨_, ho, hf⟩ := hf
  replace hf := zf_b2e hf
  obtain ⟨v7, h8, hv, hf⟩ := hf
  refine zv_c zq_204 zo_204 rfl rfl rfl rfl rfl (zv_cv rfl rfl rfl (zf_ise ho) rfl) (t_f_Sheet_orderBy _ _ _ _ _ _ _ hv) ?_
  refine zv_p (k := 2) (f' := (28, [(6, .ref v4), (5, .ref v1), (0, .ref p0), (1, .int p1), (2, .int p2), (3, .int p3), (4, .int p4)], [.ref v1, .ref v4])) zq_204 zo_204 (by with_unfolding_all rfl) ?_
  replace hf := zf_be hf
  obtain ⟨_, ho, hf⟩ := hf
  replace hf := zf_b2e hf
  obtain ⟨v9, h10, hv, hf⟩ := hf
  refine zv_c zq_204 zo_204 rfl rfl rfl rfl rfl (zv_cv rfl rfl rfl (zf_ise ho) rfl) (t_f_Sheet_placesUnlike _ _ _ _ _ hv) ?_
  cases hf
  exact zv_rn zq_204 zo_204 rfl rfl
/-! Preconditions.checkFromToIndex (IIILjava/util/function/BiFunction;)I -/
noncomputable def zI_173 : zd_T := [[(0, .iload_n 0, 1), (1, .ifCond .lt 13, 3), (4, .iload_n 0, 1), (5, .iload_n 1, 1), (6, .if_icmp .gt 8, 3), (9, .iload_n 1, 1), (10, .iload_n 2, 1), (11, .if_icmp .le 11, 3), (14, .aload_n 3, 1), (15, .iload_n 0, 1), (16, .iload_n 1, 1), (17, .iload_n 2, 1), (18, .invokestatic 99, 3), (21, .athrow, 1), (22, .iload_n 0, 1), (23, .ireturn, 1)]]
theorem zo_173 : zd_of 173 = some zI_173 := rfl
set_option maxRecDepth 100000 in
theorem zq_173 : zt_m[173]? = some (⟨"jdk/internal/util/Preconditions", "checkFromToIndex", "(IIILjava/util/function/BiFunction;)I"⟩, prog_44_method_12_code, 4, some (.int), [], 25, 4, 0, 1, 99999, 0) := rfl
set_option maxHeartbeats 1000000 in
def f_Preconditions_checkFromToIndex (p0 : Int32) (p1 : Int32) (p2 : Int32) (h : zx_H) : Option (Int32 × zx_H) :=
  if p0 < 0 then
    none
  else
    if p1 < p0 then
      none
    else
      if p1 ≤ p2 then
        some (p0, h)
      else
        none
set_option maxHeartbeats 4000000 in
set_option maxRecDepth 400000 in
theorem t_f_Preconditions_checkFromToIndex {sc : (Nat × (Nat → Int32)) × Bool} {d : Nat} {y900 : Option Nat} (p0 : Int32) (p1 : Int32) (p2 : Int32) (h : zx_H) (r : Int32) (h' : zx_H) (hf : f_Preconditions_checkFromToIndex p0 p1 p2 h = some (r, h')) : zx_T sc d 173 (0, [(0, .int p0), (1, .int p1), (2, .int p2), (3, zx_rf y900)], []) h (zf_oI r) h' := by
  unfold f_Preconditions_checkFromToIndex at hf
  refine zv_p (k := 1) (f' := (1, [(0, .int p0), (1, .int p1), (2, .int p2), (3, zx_rf y900)], [.int p0])) zq_173 zo_173 (by cases y900 <;> with_unfolding_all rfl) ?_
  replace hf := zf_ite hf
  obtain ⟨hc, hf⟩ | ⟨hc, hf⟩ := hf
  · refine zv_brT (off := 13) (tt := 14) (r := []) zq_173 zo_173 hc rfl rfl rfl ?_
    cases hf
  · refine zv_brF (off := 13) (tt := 14) (r := []) zq_173 zo_173 hc rfl rfl rfl ?_
    refine zv_p (k := 2) (f' := (6, [(0, .int p0), (1, .int p1), (2, .int p2), (3, zx_rf y900)], [.int p1, .int p0])) zq_173 zo_173 (by cases y900 <;> with_unfolding_all rfl) ?_
    replace hf := zf_ite hf
    obtain ⟨hc, hf⟩ | ⟨hc, hf⟩ := hf
    · refine zv_brT (off := 8) (tt := 14) (r := []) zq_173 zo_173 hc rfl rfl rfl ?_
      cases hf
    · refine zv_brF (off := 8) (tt := 14) (r := []) zq_173 zo_173 hc rfl rfl rfl ?_
      refine zv_p (k := 2) (f' := (11, [(0, .int p0), (1, .int p1), (2, .int p2), (3, zx_rf y900)], [.int p2, .int p1])) zq_173 zo_173 (by cases y900 <;> with_unfolding_all rfl) ?_
      replace hf := zf_ite hf
      obtain ⟨hc, hf⟩ | ⟨hc, hf⟩ := hf
      · refine zv_brT (off := 11) (tt := 22) (r := []) zq_173 zo_173 hc rfl rfl rfl ?_
        refine zv_p (k := 1) (f' := (23, [(0, .int p0), (1, .int p1), (2, .int p2), (3, zx_rf y900)], [.int p0])) zq_173 zo_173 (by cases y900 <;> with_unfolding_all rfl) ?_
        cases hf
        exact zv_rn zq_173 zo_173 rfl rfl
      · refine zv_brF (off := 11) (tt := 22) (r := []) zq_173 zo_173 hc rfl rfl rfl ?_
        cases hf
/-! String.checkOffset (II)V -/
noncomputable def zI_212 : zd_T := [[(0, .iload_n 0, 1), (1, .iload_n 1, 1), (2, .iload_n 1, 1), (3, .getstatic 1053, 3), (6, .invokestatic 1062, 3), (9, .pop, 1), (10, .return_, 1)]]
theorem zo_212 : zd_of 212 = some zI_212 := rfl
set_option maxRecDepth 100000 in
theorem zq_212 : zt_m[212]? = some (⟨"java/lang/String", "checkOffset", "(II)V"⟩, prog_31_method_156_code, 2, none, [], 0, 2, 0, 1, 99999, 0) := rfl
set_option maxHeartbeats 1000000 in
def f_String_checkOffset (p0 : Int32) (p1 : Int32) (h : zx_H) : Option (Unit × zx_H) :=
  zf_b2 (f_Preconditions_checkFromToIndex p0 p1 p1 h) fun v2 h3 =>
  some ((), h3)
set_option maxHeartbeats 4000000 in
set_option maxRecDepth 400000 in
theorem t_f_String_checkOffset {sc : (Nat × (Nat → Int32)) × Bool} {d : Nat} (p0 : Int32) (p1 : Int32) (h : zx_H) (r : Unit) (h' : zx_H) (hf : f_String_checkOffset p0 p1 h = some (r, h')) : zx_T sc (d + 1) 212 (0, [(0, .int p0), (1, .int p1)], []) h (zf_oV r) h' := by
  unfold f_String_checkOffset at hf
  refine zv_p (k := 3) (f' := (3, [(0, .int p0), (1, .int p1)], [.int p1, .int p1, .int p0])) zq_212 zo_212 (by with_unfolding_all rfl) ?_
  obtain ⟨y1, hy⟩ := zf_fme sc.2
  refine zv_gs zq_212 zo_212 rfl rfl hy ?_
  replace hf := zf_b2e hf
  obtain ⟨v2, h3, hv, hf⟩ := hf
  refine zv_c zq_212 zo_212 rfl (by cases y1 <;> rfl) (by cases y1 <;> rfl) (by cases y1 <;> rfl) (by cases y1 <;> rfl) (show zx_c _ _ _ _ _ = some (173, [.int p0, .int p1, .int p1, zx_rf y1], []) from by cases y1 <;> rfl) (t_f_Preconditions_checkFromToIndex _ _ _ _ _ _ hv) ?_
  refine zv_p (k := 1) (f' := (10, [(0, .int p0), (1, .int p1)], [])) zq_212 zo_212 (by with_unfolding_all rfl) ?_
  cases hf
  exact zv_r zq_212 zo_212 rfl rfl rfl rfl rfl
/-! AbstractStringBuilder.shift (II)V -/
noncomputable def zI_213 : zd_T := [[(0, .aload_n 0, 1), (1, .getfield 15, 3), (4, .iload_n 1, 1), (5, .aload_n 0, 1), (6, .getfield 22, 3), (9, .ishl, 1), (10, .aload_n 0, 1), (11, .getfield 15, 3), (14, .iload_n 1, 1), (15, .iload_n 2, 1), (16, .iadd, 1), (17, .aload_n 0, 1), (18, .getfield 22, 3), (21, .ishl, 1), (22, .aload_n 0, 1), (23, .getfield 79, 3), (26, .iload_n 1, 1), (27, .isub, 1), (28, .aload_n 0, 1), (29, .getfield 22, 3)], [(32, .ishl, 1), (33, .invokestatic 309, 3), (36, .return_, 1)]]
theorem zo_213 : zd_of 213 = some zI_213 := rfl
set_option maxRecDepth 100000 in
theorem zq_213 : zt_m[213]? = some (⟨"java/lang/AbstractStringBuilder", "shift", "(II)V"⟩, prog_17_method_43_code, 3, none, [], 20, 2, 0, 0, 99999, 0) := rfl
set_option maxHeartbeats 1000000 in
def f_AbstractStringBuilder_shift (p0 : Nat) (p1 : Int32) (p2 : Int32) (h : zx_H) : Option (Unit × zx_H) :=
  zf_b (zf_A 1 0 p0 h) fun v1 =>
  zf_b (zf_I 1 1 p0 h) fun v2 =>
  zf_b (zf_A 1 0 p0 h) fun v3 =>
  zf_b (zf_I 1 1 p0 h) fun v4 =>
  zf_b (zf_I 1 3 p0 h) fun v5 =>
  zf_b (zf_I 1 1 p0 h) fun v6 =>
  zf_b (zf_cpy v1 (p1 <<< (v2 &&& 31)) v3 ((p1 + p2) <<< (v4 &&& 31)) ((v5 - p1) <<< (v6 &&& 31)) h) fun h7 =>
  some ((), h7)
set_option maxHeartbeats 4000000 in
set_option maxRecDepth 400000 in
theorem t_f_AbstractStringBuilder_shift {sc : (Nat × (Nat → Int32)) × Bool} {d : Nat} (p0 : Nat) (p1 : Int32) (p2 : Int32) (h : zx_H) (r : Unit) (h' : zx_H) (hf : f_AbstractStringBuilder_shift p0 p1 p2 h = some (r, h')) : zx_T sc d 213 (0, [(0, .ref p0), (1, .int p1), (2, .int p2)], []) h (zf_oV r) h' := by
  unfold f_AbstractStringBuilder_shift at hf
  refine zv_p (k := 1) (f' := (1, [(0, .ref p0), (1, .int p1), (2, .int p2)], [.ref p0])) zq_213 zo_213 (by with_unfolding_all rfl) ?_
  replace hf := zf_be hf
  obtain ⟨v1, hv, hf⟩ := hf
  refine zv_gf zq_213 zo_213 rfl rfl rfl (zf_Ae hv) ?_
  refine zv_p (k := 2) (f' := (6, [(0, .ref p0), (1, .int p1), (2, .int p2)], [.ref p0, .int p1, .ref v1])) zq_213 zo_213 (by with_unfolding_all rfl) ?_
  replace hf := zf_be hf
  obtain ⟨v2, hv, hf⟩ := hf
  refine zv_gf zq_213 zo_213 rfl rfl rfl (zf_Ie hv) ?_
  refine zv_p (k := 2) (f' := (11, [(0, .ref p0), (1, .int p1), (2, .int p2)], [.ref p0, .int (p1 <<< (v2 &&& 31)), .ref v1])) zq_213 zo_213 (by with_unfolding_all rfl) ?_
  replace hf := zf_be hf
  obtain ⟨v3, hv, hf⟩ := hf
  refine zv_gf zq_213 zo_213 rfl rfl rfl (zf_Ae hv) ?_
  refine zv_p (k := 4) (f' := (18, [(0, .ref p0), (1, .int p1), (2, .int p2)], [.ref p0, .int (p1 + p2), .ref v3, .int (p1 <<< (v2 &&& 31)), .ref v1])) zq_213 zo_213 (by with_unfolding_all rfl) ?_
  replace hf := zf_be hf
  obtain ⟨v4, hv, hf⟩ := hf
  refine zv_gf zq_213 zo_213 rfl rfl rfl (zf_Ie hv) ?_
  refine zv_p (k := 2) (f' := (23, [(0, .ref p0), (1, .int p1), (2, .int p2)], [.ref p0, .int ((p1 + p2) <<< (v4 &&& 31)), .ref v3, .int (p1 <<< (v2 &&& 31)), .ref v1])) zq_213 zo_213 (by with_unfolding_all rfl) ?_
  replace hf := zf_be hf
  obtain ⟨v5, hv, hf⟩ := hf
  refine zv_gf zq_213 zo_213 rfl rfl rfl (zf_Ie hv) ?_
  refine zv_p (k := 3) (f' := (29, [(0, .ref p0), (1, .int p1), (2, .int p2)], [.ref p0, .int (v5 - p1), .int ((p1 + p2) <<< (v4 &&& 31)), .ref v3, .int (p1 <<< (v2 &&& 31)), .ref v1])) zq_213 zo_213 (by with_unfolding_all rfl) ?_
  replace hf := zf_be hf
  obtain ⟨v6, hv, hf⟩ := hf
  refine zv_gf zq_213 zo_213 rfl rfl rfl (zf_Ie hv) ?_
  refine zv_p (k := 1) (f' := (33, [(0, .ref p0), (1, .int p1), (2, .int p2)], [.int ((v5 - p1) <<< (v6 &&& 31)), .int ((p1 + p2) <<< (v4 &&& 31)), .ref v3, .int (p1 <<< (v2 &&& 31)), .ref v1])) zq_213 zo_213 (by with_unfolding_all rfl) ?_
  replace hf := zf_be hf
  obtain ⟨h7, hv, hf⟩ := hf
  refine zv_cpy zq_213 zo_213 rfl rfl rfl hv ?_
  cases hf
  exact zv_r zq_213 zo_213 rfl rfl rfl rfl rfl
/-! AbstractStringBuilder.insert (IC)Ljava/lang/AbstractStringBuilder; -/
noncomputable def zI_211 : zd_T := [[(0, .iload_n 1, 1), (1, .aload_n 0, 1), (2, .getfield 79, 3), (5, .invokestatic 315, 3), (8, .aload_n 0, 1), (9, .aload_n 0, 1), (10, .getfield 79, 3), (13, .iconst 1, 1), (14, .iadd, 1), (15, .invokevirtual 100, 3), (18, .aload_n 0, 1), (19, .iload_n 1, 1), (20, .iconst 1, 1), (21, .invokevirtual 283, 3), (24, .aload_n 0, 1), (25, .dup, 1), (26, .getfield 79, 3), (29, .iconst 1, 1), (30, .iadd, 1), (31, .putfield 79, 3)], [(34, .aload_n 0, 1), (35, .invokevirtual 83, 3), (38, .ifCond .eq 21, 3), (41, .iload_n 2, 1), (42, .invokestatic 191, 3), (45, .ifCond .eq 14, 3), (48, .aload_n 0, 1), (49, .getfield 15, 3), (52, .iload_n 1, 1), (53, .iload_n 2, 1), (54, .i2b, 1), (55, .bastore, 1), (56, .goto 23, 3), (59, .aload_n 0, 1), (60, .invokevirtual 83, 3), (63, .ifCond .eq 7, 3)], [(66, .aload_n 0, 1), (67, .invokevirtual 195, 3), (70, .aload_n 0, 1), (71, .getfield 15, 3), (74, .iload_n 1, 1), (75, .iload_n 2, 1), (76, .invokestatic 197, 3), (79, .aload_n 0, 1), (80, .areturn, 1)]]
theorem zo_211 : zd_of 211 = some zI_211 := rfl
set_option maxRecDepth 100000 in
theorem zq_211 : zt_m[211]? = some (⟨"java/lang/AbstractStringBuilder", "insert", "(IC)Ljava/lang/AbstractStringBuilder;"⟩, prog_17_method_51_code, 3, some (.object "java/lang/AbstractStringBuilder"), [], 20, 2, 0, 0, 99999, 0) := rfl
set_option maxHeartbeats 1000000 in
def f_AbstractStringBuilder_insert_59 (p0 : Nat) (p1 : Int32) (p2 : Int32) (h : zx_H) : Option (Nat × zx_H) :=
  zf_b2 (fv_0 p0 h) fun v1 h2 =>
  if v1 = 0 then
    zf_b (zf_A 1 0 p0 h2) fun v3 =>
    none
  else
    zf_b (zf_is 1 p0 h2) fun _ =>
    zf_b2 (f_AbstractStringBuilder_inflate p0 h2) fun _ h5 =>
    zf_b (zf_A 1 0 p0 h5) fun v6 =>
    none
set_option maxHeartbeats 4000000 in
set_option maxRecDepth 400000 in
theorem t_f_AbstractStringBuilder_insert_59 {sc : (Nat × (Nat → Int32)) × Bool} {d : Nat} (p0 : Nat) (p1 : Int32) (p2 : Int32) (h : zx_H) (r : Nat) (h' : zx_H) (hf : f_AbstractStringBuilder_insert_59 p0 p1 p2 h = some (r, h')) : zx_T sc (d + 4) 211 (59, [(0, .ref p0), (1, .int p1), (2, .int p2)], []) h (zf_oA r) h' := by
  unfold f_AbstractStringBuilder_insert_59 at hf
  refine zv_p (k := 1) (f' := (60, [(0, .ref p0), (1, .int p1), (2, .int p2)], [.ref p0])) zq_211 zo_211 (by with_unfolding_all rfl) ?_
  replace hf := zf_b2e hf
  obtain ⟨v1, h2, hv, hf⟩ := hf
  obtain ⟨mj, hcl, hrun⟩ := tv_0 hv
  refine zv_c zq_211 zo_211 rfl rfl rfl rfl rfl (hcl _ _ _ _ _ _ rfl rfl rfl rfl) hrun ?_
  replace hf := zf_ite hf
  obtain ⟨hc, hf⟩ | ⟨hc, hf⟩ := hf
  · refine zv_brT (off := 7) (tt := 70) (r := []) zq_211 zo_211 hc rfl rfl rfl ?_
    refine zv_p (k := 1) (f' := (71, [(0, .ref p0), (1, .int p1), (2, .int p2)], [.ref p0])) zq_211 zo_211 (by with_unfolding_all rfl) ?_
    replace hf := zf_be hf
    obtain ⟨v3, hv, hf⟩ := hf
    refine zv_gf zq_211 zo_211 rfl rfl rfl (zf_Ae hv) ?_
    refine zv_p (k := 2) (f' := (76, [(0, .ref p0), (1, .int p1), (2, .int p2)], [.int p2, .int p1, .ref v3])) zq_211 zo_211 (by with_unfolding_all rfl) ?_
    cases hf
  · refine zv_brF (off := 7) (tt := 70) (r := []) zq_211 zo_211 hc rfl rfl rfl ?_
    refine zv_p (k := 1) (f' := (67, [(0, .ref p0), (1, .int p1), (2, .int p2)], [.ref p0])) zq_211 zo_211 (by with_unfolding_all rfl) ?_
    replace hf := zf_be hf
    obtain ⟨_, ho, hf⟩ := hf
    replace hf := zf_b2e hf
    obtain ⟨v4, h5, hv, hf⟩ := hf
    refine zv_c zq_211 zo_211 rfl rfl rfl rfl rfl (zv_cp rfl rfl rfl (zf_ise ho) rfl) (t_f_AbstractStringBuilder_inflate _ _ _ _ hv) ?_
    refine zv_p (k := 1) (f' := (71, [(0, .ref p0), (1, .int p1), (2, .int p2)], [.ref p0])) zq_211 zo_211 (by with_unfolding_all rfl) ?_
    replace hf := zf_be hf
    obtain ⟨v6, hv, hf⟩ := hf
    refine zv_gf zq_211 zo_211 rfl rfl rfl (zf_Ae hv) ?_
    refine zv_p (k := 2) (f' := (76, [(0, .ref p0), (1, .int p1), (2, .int p2)], [.int p2, .int p1, .ref v6])) zq_211 zo_211 (by with_unfolding_all rfl) ?_
    cases hf
set_option maxHeartbeats 1000000 in
def f_AbstractStringBuilder_insert (p0 : Nat) (p1 : Int32) (p2 : Int32) (h : zx_H) : Option (Nat × zx_H) :=
  zf_b (zf_I 1 3 p0 h) fun v1 =>
  zf_b2 (f_String_checkOffset p1 v1 h) fun _ h3 =>
  zf_b (zf_I 1 3 p0 h3) fun v4 =>
  zf_b (zf_is 1 p0 h3) fun _ =>
  zf_b2 (f_AbstractStringBuilder_ensureCapacityInternal p0 (v4 + (1 : Int32)) h3) fun _ h6 =>
  zf_b (zf_is 1 p0 h6) fun _ =>
  zf_b2 (f_AbstractStringBuilder_shift p0 p1 (1 : Int32) h6) fun _ h8 =>
  zf_b (zf_I 1 3 p0 h8) fun v9 =>
  zf_b (zf_put 1 3 p0 (.int (v9 + (1 : Int32))) h8) fun h10 =>
  zf_b2 (fv_0 p0 h10) fun v11 h12 =>
  if v11 = 0 then
    f_AbstractStringBuilder_insert_59 p0 p1 p2 h12
  else
    zf_b2 (f_StringLatin1_canEncode p2 h12) fun v13 h14 =>
    if v13 = 0 then
      f_AbstractStringBuilder_insert_59 p0 p1 p2 h14
    else
      zf_b (zf_A 1 0 p0 h14) fun v15 =>
      zf_b (zf_stB v15 p1 ((p2).toInt8.toInt32) h14) fun h16 =>
      some (p0, h16)
set_option maxHeartbeats 4000000 in
set_option maxRecDepth 400000 in
theorem t_f_AbstractStringBuilder_insert {sc : (Nat × (Nat → Int32)) × Bool} {d : Nat} (p0 : Nat) (p1 : Int32) (p2 : Int32) (h : zx_H) (r : Nat) (h' : zx_H) (hf : f_AbstractStringBuilder_insert p0 p1 p2 h = some (r, h')) : zx_T sc (d + 4) 211 (0, [(0, .ref p0), (1, .int p1), (2, .int p2)], []) h (zf_oA r) h' := by
  unfold f_AbstractStringBuilder_insert at hf
  refine zv_p (k := 2) (f' := (2, [(0, .ref p0), (1, .int p1), (2, .int p2)], [.ref p0, .int p1])) zq_211 zo_211 (by with_unfolding_all rfl) ?_
  replace hf := zf_be hf
  obtain ⟨v1, hv, hf⟩ := hf
  refine zv_gf zq_211 zo_211 rfl rfl rfl (zf_Ie hv) ?_
  replace hf := zf_b2e hf
  obtain ⟨v2, h3, hv, hf⟩ := hf
  refine zv_c zq_211 zo_211 rfl rfl rfl rfl rfl rfl (t_f_String_checkOffset _ _ _ _ _ hv) ?_
  refine zv_p (k := 2) (f' := (10, [(0, .ref p0), (1, .int p1), (2, .int p2)], [.ref p0, .ref p0])) zq_211 zo_211 (by with_unfolding_all rfl) ?_
  replace hf := zf_be hf
  obtain ⟨v4, hv, hf⟩ := hf
  refine zv_gf zq_211 zo_211 rfl rfl rfl (zf_Ie hv) ?_
  refine zv_p (k := 2) (f' := (15, [(0, .ref p0), (1, .int p1), (2, .int p2)], [.int (v4 + (1 : Int32)), .ref p0])) zq_211 zo_211 (by with_unfolding_all rfl) ?_
  replace hf := zf_be hf
  obtain ⟨_, ho, hf⟩ := hf
  replace hf := zf_b2e hf
  obtain ⟨v5, h6, hv, hf⟩ := hf
  refine zv_c zq_211 zo_211 rfl rfl rfl rfl rfl (zv_cp rfl rfl rfl (zf_ise ho) rfl) (t_f_AbstractStringBuilder_ensureCapacityInternal _ _ _ _ _ hv) ?_
  refine zv_p (k := 3) (f' := (21, [(0, .ref p0), (1, .int p1), (2, .int p2)], [.int (1 : Int32), .int p1, .ref p0])) zq_211 zo_211 (by with_unfolding_all rfl) ?_
  replace hf := zf_be hf
  obtain ⟨_, ho, hf⟩ := hf
  replace hf := zf_b2e hf
  obtain ⟨v7, h8, hv, hf⟩ := hf
  refine zv_c zq_211 zo_211 rfl rfl rfl rfl rfl (zv_cp rfl rfl rfl (zf_ise ho) rfl) (t_f_AbstractStringBuilder_shift _ _ _ _ _ _ hv) ?_
  refine zv_p (k := 2) (f' := (26, [(0, .ref p0), (1, .int p1), (2, .int p2)], [.ref p0, .ref p0])) zq_211 zo_211 (by with_unfolding_all rfl) ?_
  replace hf := zf_be hf
  obtain ⟨v9, hv, hf⟩ := hf
  refine zv_gf zq_211 zo_211 rfl rfl rfl (zf_Ie hv) ?_
  refine zv_p (k := 2) (f' := (31, [(0, .ref p0), (1, .int p1), (2, .int p2)], [.int (v9 + (1 : Int32)), .ref p0])) zq_211 zo_211 (by with_unfolding_all rfl) ?_
  replace hf := zf_be hf
  obtain ⟨h10, hv, hf⟩ := hf
  refine zv_pf zq_211 zo_211 rfl rfl rfl rfl hv ?_
  refine zv_p (k := 1) (f' := (35, [(0, .ref p0), (1, .int p1), (2, .int p2)], [.ref p0])) zq_211 zo_211 (by with_unfolding_all rfl) ?_
  replace hf := zf_b2e hf
  obtain ⟨v11, h12, hv, hf⟩ := hf
  obtain ⟨mj, hcl, hrun⟩ := tv_0 hv
  refine zv_c zq_211 zo_211 rfl rfl rfl rfl rfl (hcl _ _ _ _ _ _ rfl rfl rfl rfl) hrun ?_
  replace hf := zf_ite hf
  obtain ⟨hc, hf⟩ | ⟨hc, hf⟩ := hf
  · refine zv_brT (off := 21) (tt := 59) (r := []) zq_211 zo_211 hc rfl rfl rfl ?_
    refine zv_pick (lv' := [(0, .ref p0), (1, .int p1), (2, .int p2)]) [0, 1, 2] rfl rfl ?_
    exact t_f_AbstractStringBuilder_insert_59 _ _ _ _ _ _ hf
  · refine zv_brF (off := 21) (tt := 59) (r := []) zq_211 zo_211 hc rfl rfl rfl ?_
    refine zv_p (k := 1) (f' := (42, [(0, .ref p0), (1, .int p1), (2, .int p2)], [.int p2])) zq_211 zo_211 (by with_unfolding_all rfl) ?_
    replace hf := zf_b2e hf
    obtain ⟨v13, h14, hv, hf⟩ := hf
    refine zv_c zq_211 zo_211 rfl rfl rfl rfl rfl rfl (t_f_StringLatin1_canEncode _ _ _ _ hv) ?_
    replace hf := zf_ite hf
    obtain ⟨hc, hf⟩ | ⟨hc, hf⟩ := hf
    · refine zv_brT (off := 14) (tt := 59) (r := []) zq_211 zo_211 hc rfl rfl rfl ?_
      refine zv_pick (lv' := [(0, .ref p0), (1, .int p1), (2, .int p2)]) [0, 1, 2] rfl rfl ?_
      exact t_f_AbstractStringBuilder_insert_59 _ _ _ _ _ _ hf
    · refine zv_brF (off := 14) (tt := 59) (r := []) zq_211 zo_211 hc rfl rfl rfl ?_
      refine zv_p (k := 1) (f' := (49, [(0, .ref p0), (1, .int p1), (2, .int p2)], [.ref p0])) zq_211 zo_211 (by with_unfolding_all rfl) ?_
      replace hf := zf_be hf
      obtain ⟨v15, hv, hf⟩ := hf
      refine zv_gf zq_211 zo_211 rfl rfl rfl (zf_Ae hv) ?_
      refine zv_p (k := 3) (f' := (55, [(0, .ref p0), (1, .int p1), (2, .int p2)], [.int (p2).toInt8.toInt32, .int p1, .ref v15])) zq_211 zo_211 (by with_unfolding_all rfl) ?_
      replace hf := zf_be hf
      obtain ⟨h16, hv, hf⟩ := hf
      refine zv_stB zq_211 zo_211 rfl hv ?_
      refine zv_p (k := 2) (f' := (80, [(0, .ref p0), (1, .int p1), (2, .int p2)], [.ref p0])) zq_211 zo_211 (by with_unfolding_all rfl) ?_
      cases hf
      exact zv_r zq_211 zo_211 rfl rfl rfl rfl rfl
/-! StringBuilder.insert (IC)Ljava/lang/StringBuilder; -/
noncomputable def zI_210 : zd_T := [[(0, .aload_n 0, 1), (1, .iload_n 1, 1), (2, .iload_n 2, 1), (3, .invokespecial 101, 3), (6, .pop, 1), (7, .aload_n 0, 1), (8, .areturn, 1)]]
theorem zo_210 : zd_of 210 = some zI_210 := rfl
set_option maxRecDepth 100000 in
theorem zq_210 : zt_m[210]? = some (⟨"java/lang/StringBuilder", "insert", "(IC)Ljava/lang/StringBuilder;"⟩, prog_32_method_30_code, 3, some (.object "java/lang/StringBuilder"), [], 1, 2, 0, 0, 0, 0) := rfl
set_option maxHeartbeats 1000000 in
def f_StringBuilder_insert (p0 : Nat) (p1 : Int32) (p2 : Int32) (h : zx_H) : Option (Nat × zx_H) :=
  zf_b (zf_is 1 p0 h) fun _ =>
  zf_b2 (f_AbstractStringBuilder_insert p0 p1 p2 h) fun v1 h2 =>
  some (p0, h2)
set_option maxHeartbeats 4000000 in
set_option maxRecDepth 400000 in
theorem t_f_StringBuilder_insert {sc : (Nat × (Nat → Int32)) × Bool} {d : Nat} (p0 : Nat) (p1 : Int32) (p2 : Int32) (h : zx_H) (r : Nat) (h' : zx_H) (hf : f_StringBuilder_insert p0 p1 p2 h = some (r, h')) : zx_T sc (d + 5) 210 (0, [(0, .ref p0), (1, .int p1), (2, .int p2)], []) h (zf_oA r) h' := by
  unfold f_StringBuilder_insert at hf
  refine zv_p (k := 3) (f' := (3, [(0, .ref p0), (1, .int p1), (2, .int p2)], [.int p2, .int p1, .ref p0])) zq_210 zo_210 (by with_unfolding_all rfl) ?_
  replace hf := zf_be hf
  obtain ⟨_, ho, hf⟩ := hf
  replace hf := zf_b2e hf
  obtain ⟨v1, h2, hv, hf⟩ := hf
  refine zv_c zq_210 zo_210 rfl rfl rfl rfl rfl (zv_cs rfl rfl rfl (zf_ise ho) rfl) (t_f_AbstractStringBuilder_insert _ _ _ _ _ _ hv) ?_
  refine zv_p (k := 2) (f' := (8, [(0, .ref p0), (1, .int p1), (2, .int p2)], [.ref p0])) zq_210 zo_210 (by with_unfolding_all rfl) ?_
  cases hf
  exact zv_r zq_210 zo_210 rfl rfl rfl rfl rfl
/-! ColumnVaultLaw.word (J)Ljava/lang/String; -/
noncomputable def zI_209 : zd_T := [[(0, .new 13, 3), (3, .dup, 1), (4, .invokespecial 15, 3), (7, .astore_n 2, 1), (8, .lload_n 0, 1), (9, .lstore_n 3, 1), (10, .lload_n 3, 1), (11, .lconst 0, 1), (12, .lcmp, 1), (13, .ifCond .le 25, 3), (16, .aload_n 2, 1), (17, .iconst 0, 1), (18, .lload_n 3, 1), (19, .ldc2_w 36, 3), (22, .lrem, 1), (23, .l2i, 1), (24, .i2c, 1), (25, .invokevirtual 42, 3), (28, .pop, 1), (29, .lload_n 3, 1), (30, .ldc2_w 36, 3)], [(33, .ldiv, 1), (34, .lstore_n 3, 1), (35, .goto (-25), 3), (38, .aload_n 2, 1), (39, .invokevirtual 26, 3), (42, .areturn, 1)]]
theorem zo_209 : zd_of 209 = some zI_209 := rfl
set_option maxRecDepth 100000 in
theorem zq_209 : zt_m[209]? = some (⟨"ColumnVaultLaw", "word", "(J)Ljava/lang/String;"⟩, method_6_code, 5, some (.object "java/lang/String"), [], 17, 1, 0, 1, 99999, 0) := rfl
set_option maxHeartbeats 1000000 in
def f_ColumnVaultLaw_word_10 : Nat → Nat → Int64 → zx_H → Option (Nat × zx_H)
  | 0, _, _, _ => none
  | n + 1, p0, p1, h =>
    if p1 ≤ (0 : Int64) then
      zf_b (zf_is 1 p0 h) fun _ =>
      zf_b2 (f_StringBuilder_toString p0 h) fun v1 h2 =>
      some (v1, h2)
    else
      zf_b (zf_is 1 p0 h) fun _ =>
      zf_b2 (f_StringBuilder_insert p0 (0 : Int32) (((((p1 - p1 / (256 : Int64) * (256 : Int64))).toInt32).toUInt32 % 65536).toInt32) h) fun v3 h4 =>
      (f_ColumnVaultLaw_word_10 n) p0 (p1 / (256 : Int64)) h4
set_option maxHeartbeats 4000000 in
set_option maxRecDepth 400000 in
theorem t_f_ColumnVaultLaw_word_10 {sc : (Nat × (Nat → Int32)) × Bool} {d : Nat} : ∀ (n : Nat) (p0 : Nat) (p1 : Int64) (h : zx_H) (r : Nat) (h' : zx_H), f_ColumnVaultLaw_word_10 n p0 p1 h = some (r, h') → zx_T sc (d + 6) 209 (10, [(2, .ref p0), (3, .long p1)], []) h (zf_oA r) h' := by
  intro n
  induction n with
  | zero => intro p0 p1 h r h' hf; cases hf
  | succ n ih =>
    intro p0 p1 h r h' hf
    unfold f_ColumnVaultLaw_word_10 at hf
    refine zv_p (k := 3) (f' := (13, [(2, .ref p0), (3, .long p1)], [.int (lg_cmp p1 (0 : Int64))])) zq_209 zo_209 (by with_unfolding_all rfl) ?_
    replace hf := zf_ite hf
    obtain ⟨hc, hf⟩ | ⟨hc, hf⟩ := hf
    · refine zv_brT (off := 25) (tt := 38) (r := []) zq_209 zo_209 (zl_le.mpr hc) rfl rfl rfl ?_
      refine zv_p (k := 1) (f' := (39, [(2, .ref p0), (3, .long p1)], [.ref p0])) zq_209 zo_209 (by with_unfolding_all rfl) ?_
      replace hf := zf_be hf
      obtain ⟨_, ho, hf⟩ := hf
      replace hf := zf_b2e hf
      obtain ⟨v1, h2, hv, hf⟩ := hf
      refine zv_c zq_209 zo_209 rfl rfl rfl rfl rfl (zv_cv rfl rfl rfl (zf_ise ho) rfl) (t_f_StringBuilder_toString _ _ _ _ hv) ?_
      cases hf
      exact zv_r zq_209 zo_209 rfl rfl rfl rfl rfl
    · refine zv_brF (off := 25) (tt := 38) (r := []) zq_209 zo_209 (mt zl_le.mp hc) rfl rfl rfl ?_
      refine zv_p (k := 3) (f' := (19, [(2, .ref p0), (3, .long p1)], [.long p1, .int (0 : Int32), .ref p0])) zq_209 zo_209 (by with_unfolding_all rfl) ?_
      refine zv_lng zq_209 zo_209 rfl rfl ?_
      refine zv_p (k := 3) (f' := (25, [(2, .ref p0), (3, .long p1)], [.int ((((p1 - p1 / (256 : Int64) * (256 : Int64))).toInt32).toUInt32 % 65536).toInt32, .int (0 : Int32), .ref p0])) zq_209 zo_209 (by with_unfolding_all rfl) ?_
      replace hf := zf_be hf
      obtain ⟨_, ho, hf⟩ := hf
      replace hf := zf_b2e hf
      obtain ⟨v3, h4, hv, hf⟩ := hf
      refine zv_c zq_209 zo_209 rfl rfl rfl rfl rfl (zv_cv rfl rfl rfl (zf_ise ho) rfl) (t_f_StringBuilder_insert _ _ _ _ _ _ hv) ?_
      refine zv_p (k := 2) (f' := (30, [(2, .ref p0), (3, .long p1)], [.long p1])) zq_209 zo_209 (by with_unfolding_all rfl) ?_
      refine zv_lng zq_209 zo_209 rfl rfl ?_
      refine zv_p (k := 3) (f' := (10, [(3, .long (p1 / (256 : Int64))), (2, .ref p0)], [])) zq_209 zo_209 (by with_unfolding_all rfl) ?_
      refine zv_pick (lv' := [(2, .ref p0), (3, .long (p1 / (256 : Int64)))]) [2, 3] rfl rfl ?_
      exact ih _ _ _ _ _ hf
set_option maxHeartbeats 1000000 in
def f_ColumnVaultLaw_word (p0 : Int64) (h : zx_H) : Option (Nat × zx_H) :=
  zf_b2 (zf_new 1 h) fun q1 h2 =>
  zf_b2 (f_StringBuilder_init q1 h2) fun _ h4 =>
  f_ColumnVaultLaw_word_10 zF q1 p0 h4
set_option maxHeartbeats 4000000 in
set_option maxRecDepth 400000 in
theorem t_f_ColumnVaultLaw_word {sc : (Nat × (Nat → Int32)) × Bool} {d : Nat} (p0 : Int64) (h : zx_H) (r : Nat) (h' : zx_H) (hf : f_ColumnVaultLaw_word p0 h = some (r, h')) : zx_T sc (d + 6) 209 (0, [(0, .long p0)], []) h (zf_oA r) h' := by
  unfold f_ColumnVaultLaw_word at hf
  replace hf := zf_b2e hf
  obtain ⟨q1, h2, hv, hf⟩ := hf
  refine zv_new zq_209 zo_209 rfl rfl rfl hv ?_
  refine zv_p (k := 1) (f' := (4, [(0, .long p0)], [.ref q1, .ref q1])) zq_209 zo_209 (by with_unfolding_all rfl) ?_
  replace hf := zf_b2e hf
  obtain ⟨v3, h4, hv, hf⟩ := hf
  refine zv_c zq_209 zo_209 rfl rfl rfl rfl rfl rfl (t_f_StringBuilder_init _ _ _ _ hv) ?_
  refine zv_p (k := 3) (f' := (10, [(3, .long p0), (2, .ref q1), (0, .long p0)], [])) zq_209 zo_209 (by with_unfolding_all rfl) ?_
  refine zv_pick (lv' := [(2, .ref q1), (3, .long p0)]) [2, 3] rfl rfl ?_
  exact t_f_ColumnVaultLaw_word_10 zF _ _ _ _ _ hf
/-! ArraysSupport.mismatch (arr Barr BI)I -/
noncomputable def zI_217 : zd_T := [[(0, .iconst 0, 1), (1, .istore_n 3, 1), (2, .iload_n 2, 1), (3, .bipush 7, 2), (5, .if_icmp .le 44, 3), (8, .aload_n 0, 1), (9, .iconst 0, 1), (10, .baload, 1), (11, .aload_n 1, 1), (12, .iconst 0, 1), (13, .baload, 1), (14, .if_icmp .eq 5, 3), (17, .iconst 0, 1), (18, .ireturn, 1), (19, .aload_n 0, 1), (20, .getstatic 126, 3), (23, .i2l, 1), (24, .aload_n 1, 1), (25, .getstatic 126, 3), (28, .i2l, 1), (29, .iload_n 2, 1), (30, .getstatic 129, 3)], [(33, .invokestatic 122, 3), (36, .istore_n 3, 1), (37, .iload_n 3, 1), (38, .ifCond .lt 5, 3), (41, .iload_n 3, 1), (42, .ireturn, 1), (43, .iload_n 2, 1), (44, .iload_n 3, 1), (45, .iconst (-1), 1), (46, .ixor, 1), (47, .isub, 1), (48, .istore_n 3, 1), (49, .iload_n 3, 1), (50, .iload_n 2, 1), (51, .if_icmp .ge 20, 3), (54, .aload_n 0, 1), (55, .iload_n 3, 1), (56, .baload, 1), (57, .aload_n 1, 1), (58, .iload_n 3, 1), (59, .baload, 1), (60, .if_icmp .eq 5, 3), (63, .iload_n 3, 1)], [(64, .ireturn, 1), (65, .iinc 3 1, 3), (68, .goto (-19), 3), (71, .iconst (-1), 1), (72, .ireturn, 1)]]
theorem zo_217 : zd_of 217 = some zI_217 := rfl
set_option maxRecDepth 100000 in
theorem zq_217 : zt_m[217]? = some (⟨"jdk/internal/util/ArraysSupport", "mismatch", "([B[BI)I"⟩, prog_43_method_13_code, 4, some (.int), [], 22, 3, 0, 1, 99999, 0) := rfl
set_option maxHeartbeats 1000000 in
def f_ArraysSupport_mismatch_49 : Nat → Nat → Nat → Int32 → Int32 → zx_H → Option (Int32 × zx_H)
  | 0, _, _, _, _, _ => none
  | n + 1, p0, p1, p2, p3, h =>
    if p2 ≤ p3 then
      some ((-1 : Int32), h)
    else
      zf_b (zf_ldB p0 p3 h) fun v1 =>
      zf_b (zf_ldB p1 p3 h) fun v2 =>
      if v1 = v2 then
        (f_ArraysSupport_mismatch_49 n) p0 p1 p2 (p3 + (1 : Int32)) h
      else
        some (p3, h)
set_option maxHeartbeats 4000000 in
set_option maxRecDepth 400000 in
theorem t_f_ArraysSupport_mismatch_49 {sc : (Nat × (Nat → Int32)) × Bool} {d : Nat} : ∀ (n : Nat) (p0 : Nat) (p1 : Nat) (p2 : Int32) (p3 : Int32) (h : zx_H) (r : Int32) (h' : zx_H), f_ArraysSupport_mismatch_49 n p0 p1 p2 p3 h = some (r, h') → zx_T sc d 217 (49, [(0, .ref p0), (1, .ref p1), (2, .int p2), (3, .int p3)], []) h (zf_oI r) h' := by
  intro n
  induction n with
  | zero => intro p0 p1 p2 p3 h r h' hf; cases hf
  | succ n ih =>
    intro p0 p1 p2 p3 h r h' hf
    unfold f_ArraysSupport_mismatch_49 at hf
    refine zv_p (k := 2) (f' := (51, [(0, .ref p0), (1, .ref p1), (2, .int p2), (3, .int p3)], [.int p2, .int p3])) zq_217 zo_217 (by with_unfolding_all rfl) ?_
    replace hf := zf_ite hf
    obtain ⟨hc, hf⟩ | ⟨hc, hf⟩ := hf
    · refine zv_brT (off := 20) (tt := 71) (r := []) zq_217 zo_217 hc rfl rfl rfl ?_
      refine zv_p (k := 1) (f' := (72, [(0, .ref p0), (1, .ref p1), (2, .int p2), (3, .int p3)], [.int (-1 : Int32)])) zq_217 zo_217 (by with_unfolding_all rfl) ?_
      cases hf
      exact zv_rn zq_217 zo_217 rfl rfl
    · refine zv_brF (off := 20) (tt := 71) (r := []) zq_217 zo_217 hc rfl rfl rfl ?_
      refine zv_p (k := 2) (f' := (56, [(0, .ref p0), (1, .ref p1), (2, .int p2), (3, .int p3)], [.int p3, .ref p0])) zq_217 zo_217 (by with_unfolding_all rfl) ?_
      replace hf := zf_be hf
      obtain ⟨v1, hv, hf⟩ := hf
      refine zv_ldB zq_217 zo_217 rfl hv ?_
      refine zv_p (k := 2) (f' := (59, [(0, .ref p0), (1, .ref p1), (2, .int p2), (3, .int p3)], [.int p3, .ref p1, .int v1])) zq_217 zo_217 (by with_unfolding_all rfl) ?_
      replace hf := zf_be hf
      obtain ⟨v2, hv, hf⟩ := hf
      refine zv_ldB zq_217 zo_217 rfl hv ?_
      replace hf := zf_ite hf
      obtain ⟨hc, hf⟩ | ⟨hc, hf⟩ := hf
      · refine zv_brT (off := 5) (tt := 65) (r := []) zq_217 zo_217 hc rfl rfl rfl ?_
        refine zv_p (k := 2) (f' := (49, [(3, .int (p3 + (1 : Int32))), (0, .ref p0), (1, .ref p1), (2, .int p2)], [])) zq_217 zo_217 (by with_unfolding_all rfl) ?_
        refine zv_pick (lv' := [(0, .ref p0), (1, .ref p1), (2, .int p2), (3, .int (p3 + (1 : Int32)))]) [0, 1, 2, 3] rfl rfl ?_
        exact ih _ _ _ _ _ _ _ hf
      · refine zv_brF (off := 5) (tt := 65) (r := []) zq_217 zo_217 hc rfl rfl rfl ?_
        refine zv_p (k := 1) (f' := (64, [(0, .ref p0), (1, .ref p1), (2, .int p2), (3, .int p3)], [.int p3])) zq_217 zo_217 (by with_unfolding_all rfl) ?_
        cases hf
        exact zv_rn zq_217 zo_217 rfl rfl
