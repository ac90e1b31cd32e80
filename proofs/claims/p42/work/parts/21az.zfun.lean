set_option maxHeartbeats 1000000 in
def f_Sheet_dropRow_23 (k11 : Nat → Int32 → Int32 → zx_H → Option (Unit × zx_H)) : Nat → Nat → Int32 → Int32 → Int32 → zx_H → Option (Unit × zx_H)
  | 0, _, _, _, _, _ => none
  | n + 1, p0, p1, p2, p3, h =>
    zf_b (zf_I 10 4 p0 h) fun v1 =>
    if v1 ≤ p3 then
      k11 p0 p1 (p2 + (1 : Int32)) h
    else
      zf_b (zf_is 10 p0 h) fun _ =>
      zf_b2 (f_Sheet_keyAt p0 p2 p3 h) fun v2 h3 =>
      zf_b (zf_is 10 p0 h3) fun _ =>
      zf_b2 (f_Sheet_putKey p0 p2 (p3 - (1 : Int32)) v2 h3) fun _ h5 =>
      (f_Sheet_dropRow_23 k11 n) p0 p1 p2 (p3 + (1 : Int32)) h5
set_option maxHeartbeats 4000000 in
set_option maxRecDepth 400000 in
theorem t_f_Sheet_dropRow_23 {sc : (Nat × (Nat → Int32)) × Bool} {d : Nat} {k11 : Nat → Int32 → Int32 → zx_H → Option (Unit × zx_H)} (hk11 : ∀ (a0 : Nat) (a1 : Int32) (a2 : Int32) (h : zx_H) (r : Unit) (h' : zx_H), k11 a0 a1 a2 h = some (r, h') → zx_T sc (d + 2) 194 (11, [(0, .ref a0), (1, .int a1), (2, .int a2)], []) h (zf_oV r) h') : ∀ (n : Nat) (p0 : Nat) (p1 : Int32) (p2 : Int32) (p3 : Int32) (h : zx_H) (r : Unit) (h' : zx_H), f_Sheet_dropRow_23 k11 n p0 p1 p2 p3 h = some (r, h') → zx_T sc (d + 2) 194 (23, [(0, .ref p0), (1, .int p1), (2, .int p2), (3, .int p3)], []) h (zf_oV r) h' := by
  intro n
  induction n with
  | zero => intro p0 p1 p2 p3 h r h' hf; cases hf
  | succ n ih =>
    intro p0 p1 p2 p3 h r h' hf
    unfold f_Sheet_dropRow_23 at hf
    refine zv_p (k := 2) (f' := (25, [(0, .ref p0), (1, .int p1), (2, .int p2), (3, .int p3)], [.ref p0, .int p3])) zq_194 zo_194 (by with_unfolding_all rfl) ?_
    replace hf := zf_be hf
    obtain ⟨v1, hv, hf⟩ := hf
    refine zv_gf zq_194 zo_194 rfl rfl rfl (zf_Ie hv) ?_
    replace hf := zf_ite hf
    obtain ⟨hc, hf⟩ | ⟨hc, hf⟩ := hf
    · refine zv_brT (off := 23) (tt := 51) (r := []) zq_194 zo_194 hc rfl rfl rfl ?_
      refine zv_p (k := 2) (f' := (11, [(2, .int (p2 + (1 : Int32))), (0, .ref p0), (1, .int p1), (3, .int p3)], [])) zq_194 zo_194 (by with_unfolding_all rfl) ?_
      refine zv_pick (lv' := [(0, .ref p0), (1, .int p1), (2, .int (p2 + (1 : Int32)))]) [0, 1, 2] rfl rfl ?_
      exact hk11 _ _ _ _ _ _ hf
    · refine zv_brF (off := 23) (tt := 51) (r := []) zq_194 zo_194 hc rfl rfl rfl ?_
      refine zv_p (k := 8) (f' := (39, [(0, .ref p0), (1, .int p1), (2, .int p2), (3, .int p3)], [.int p3, .int p2, .ref p0, .int (p3 - (1 : Int32)), .int p2, .ref p0])) zq_194 zo_194 (by with_unfolding_all rfl) ?_
      replace hf := zf_be hf
      obtain ⟨_, ho, hf⟩ := hf
      replace hf := zf_b2e hf
      obtain ⟨v2, h3, hv, hf⟩ := hf
      refine zv_c zq_194 zo_194 rfl rfl rfl rfl rfl (zv_cv rfl rfl rfl (zf_ise ho) rfl) (t_f_Sheet_keyAt _ _ _ _ _ _ hv) ?_
      replace hf := zf_be hf
      obtain ⟨_, ho, hf⟩ := hf
      replace hf := zf_b2e hf
      obtain ⟨v4, h5, hv, hf⟩ := hf
      refine zv_c zq_194 zo_194 rfl rfl rfl rfl rfl (zv_cv rfl rfl rfl (zf_ise ho) rfl) (t_f_Sheet_putKey _ _ _ _ _ _ _ hv) ?_
      refine zv_p (k := 2) (f' := (23, [(3, .int (p3 + (1 : Int32))), (0, .ref p0), (1, .int p1), (2, .int p2)], [])) zq_194 zo_194 (by with_unfolding_all rfl) ?_
      refine zv_pick (lv' := [(0, .ref p0), (1, .int p1), (2, .int p2), (3, .int (p3 + (1 : Int32)))]) [0, 1, 2, 3] rfl rfl ?_
      exact ih _ _ _ _ _ _ _ hf
set_option maxHeartbeats 1000000 in
def f_Sheet_dropRow_11 : Nat → Nat → Int32 → Int32 → zx_H → Option (Unit × zx_H)
  | 0, _, _, _, _ => none
  | n + 1, p0, p1, p2, h =>
    zf_b (zf_I 10 3 p0 h) fun v1 =>
    if v1 ≤ p2 then
      zf_b (zf_is 10 p0 h) fun _ =>
      zf_b2 (f_Sheet_dropFromOrder p0 p1 h) fun _ h3 =>
      zf_b (zf_J 10 5 p0 h3) fun v4 =>
      zf_b (zf_J 10 5 p0 h3) fun v5 =>
      zf_b (zf_put 10 5 p0 (.long ((v4 &&& (((1 : Int64) <<< ((p1).toInt64 &&& 63)) - (1 : Int64))) ||| (((v5).toUInt64 >>> (((1 : Int32)).toInt64.toUInt64 &&& Int64.toUInt64 63)).toInt64 &&& ((((1 : Int64) <<< ((p1).toInt64 &&& 63)) - (1 : Int64)) ^^^ (-1 : Int64))))) h3) fun h6 =>
      zf_b (zf_I 10 4 p0 h6) fun v7 =>
      zf_b (zf_put 10 4 p0 (.int (v7 - (1 : Int32))) h6) fun h8 =>
      some ((), h8)
    else
      f_Sheet_dropRow_23 (f_Sheet_dropRow_11 n) zF p0 p1 p2 (p1 + (1 : Int32)) h
set_option maxHeartbeats 4000000 in
set_option maxRecDepth 400000 in
theorem t_f_Sheet_dropRow_11 {sc : (Nat × (Nat → Int32)) × Bool} {d : Nat} : ∀ (n : Nat) (p0 : Nat) (p1 : Int32) (p2 : Int32) (h : zx_H) (r : Unit) (h' : zx_H), f_Sheet_dropRow_11 n p0 p1 p2 h = some (r, h') → zx_T sc (d + 2) 194 (11, [(0, .ref p0), (1, .int p1), (2, .int p2)], []) h (zf_oV r) h' := by
  intro n
  induction n with
  | zero => intro p0 p1 p2 h r h' hf; cases hf
  | succ n ih =>
    intro p0 p1 p2 h r h' hf
    unfold f_Sheet_dropRow_11 at hf
    refine zv_p (k := 2) (f' := (13, [(0, .ref p0), (1, .int p1), (2, .int p2)], [.ref p0, .int p2])) zq_194 zo_194 (by with_unfolding_all rfl) ?_
    replace hf := zf_be hf
    obtain ⟨v1, hv, hf⟩ := hf
    refine zv_gf zq_194 zo_194 rfl rfl rfl (zf_Ie hv) ?_
    replace hf := zf_ite hf
    obtain ⟨hc, hf⟩ | ⟨hc, hf⟩ := hf
    · refine zv_brT (off := 41) (tt := 57) (r := []) zq_194 zo_194 hc rfl rfl rfl ?_
      refine zv_p (k := 2) (f' := (59, [(0, .ref p0), (1, .int p1), (2, .int p2)], [.int p1, .ref p0])) zq_194 zo_194 (by with_unfolding_all rfl) ?_
      replace hf := zf_be hf
      obtain ⟨_, ho, hf⟩ := hf
      replace hf := zf_b2e hf
      obtain ⟨v2, h3, hv, hf⟩ := hf
      refine zv_c zq_194 zo_194 rfl rfl rfl rfl rfl (zv_cv rfl rfl rfl (zf_ise ho) rfl) (t_f_Sheet_dropFromOrder _ _ _ _ _ hv) ?_
      refine zv_p (k := 8) (f' := (70, [(2, .long (((1 : Int64) <<< ((p1).toInt64 &&& 63)) - (1 : Int64))), (0, .ref p0), (1, .int p1)], [.ref p0, .ref p0])) zq_194 zo_194 (by with_unfolding_all rfl) ?_
      replace hf := zf_be hf
      obtain ⟨v4, hv, hf⟩ := hf
      refine zv_gf zq_194 zo_194 rfl rfl rfl (zf_Je hv) ?_
      refine zv_p (k := 3) (f' := (76, [(2, .long (((1 : Int64) <<< ((p1).toInt64 &&& 63)) - (1 : Int64))), (0, .ref p0), (1, .int p1)], [.ref p0, .long (v4 &&& (((1 : Int64) <<< ((p1).toInt64 &&& 63)) - (1 : Int64))), .ref p0])) zq_194 zo_194 (by with_unfolding_all rfl) ?_
      replace hf := zf_be hf
      obtain ⟨v5, hv, hf⟩ := hf
      refine zv_gf zq_194 zo_194 rfl rfl rfl (zf_Je hv) ?_
      refine zv_p (k := 3) (f' := (82, [(2, .long (((1 : Int64) <<< ((p1).toInt64 &&& 63)) - (1 : Int64))), (0, .ref p0), (1, .int p1)], [.long (((1 : Int64) <<< ((p1).toInt64 &&& 63)) - (1 : Int64)), .long ((v5).toUInt64 >>> (((1 : Int32)).toInt64.toUInt64 &&& Int64.toUInt64 63)).toInt64, .long (v4 &&& (((1 : Int64) <<< ((p1).toInt64 &&& 63)) - (1 : Int64))), .ref p0])) zq_194 zo_194 (by with_unfolding_all rfl) ?_
      refine zv_lng zq_194 zo_194 rfl rfl ?_
      refine zv_p (k := 3) (f' := (88, [(2, .long (((1 : Int64) <<< ((p1).toInt64 &&& 63)) - (1 : Int64))), (0, .ref p0), (1, .int p1)], [.long ((v4 &&& (((1 : Int64) <<< ((p1).toInt64 &&& 63)) - (1 : Int64))) ||| (((v5).toUInt64 >>> (((1 : Int32)).toInt64.toUInt64 &&& Int64.toUInt64 63)).toInt64 &&& ((((1 : Int64) <<< ((p1).toInt64 &&& 63)) - (1 : Int64)) ^^^ (-1 : Int64)))), .ref p0])) zq_194 zo_194 (by with_unfolding_all rfl) ?_
      replace hf := zf_be hf
      obtain ⟨h6, hv, hf⟩ := hf
      refine zv_pf zq_194 zo_194 rfl rfl rfl rfl hv ?_
      refine zv_p (k := 2) (f' := (93, [(2, .long (((1 : Int64) <<< ((p1).toInt64 &&& 63)) - (1 : Int64))), (0, .ref p0), (1, .int p1)], [.ref p0, .ref p0])) zq_194 zo_194 (by with_unfolding_all rfl) ?_
      replace hf := zf_be hf
      obtain ⟨v7, hv, hf⟩ := hf
      refine zv_gf zq_194 zo_194 rfl rfl rfl (zf_Ie hv) ?_
      refine zv_p (k := 2) (f' := (98, [(2, .long (((1 : Int64) <<< ((p1).toInt64 &&& 63)) - (1 : Int64))), (0, .ref p0), (1, .int p1)], [.int (v7 - (1 : Int32)), .ref p0])) zq_194 zo_194 (by with_unfolding_all rfl) ?_
      replace hf := zf_be hf
      obtain ⟨h8, hv, hf⟩ := hf
      refine zv_pf zq_194 zo_194 rfl rfl rfl rfl hv ?_
      cases hf
      exact zv_r zq_194 zo_194 rfl rfl rfl rfl rfl
    · refine zv_brF (off := 41) (tt := 57) (r := []) zq_194 zo_194 hc rfl rfl rfl ?_
      refine zv_p (k := 4) (f' := (23, [(3, .int (p1 + (1 : Int32))), (0, .ref p0), (1, .int p1), (2, .int p2)], [])) zq_194 zo_194 (by with_unfolding_all rfl) ?_
      refine zv_pick (lv' := [(0, .ref p0), (1, .int p1), (2, .int p2), (3, .int (p1 + (1 : Int32)))]) [0, 1, 2, 3] rfl rfl ?_
      exact t_f_Sheet_dropRow_23 ih zF _ _ _ _ _ _ _ hf
set_option maxHeartbeats 1000000 in
def f_Sheet_dropRow (p0 : Nat) (p1 : Int32) (h : zx_H) : Option (Unit × zx_H) :=
  zf_b (zf_is 10 p0 h) fun _ =>
  zf_b2 (f_Sheet_hasRow p0 p1 h) fun v1 h2 =>
  if ¬ v1 = 0 then
    f_Sheet_dropRow_11 zF p0 p1 (0 : Int32) h2
  else
    some ((), h2)
set_option maxHeartbeats 4000000 in
set_option maxRecDepth 400000 in
theorem t_f_Sheet_dropRow {sc : (Nat × (Nat → Int32)) × Bool} {d : Nat} (p0 : Nat) (p1 : Int32) (h : zx_H) (r : Unit) (h' : zx_H) (hf : f_Sheet_dropRow p0 p1 h = some (r, h')) : zx_T sc (d + 2) 194 (0, [(0, .ref p0), (1, .int p1)], []) h (zf_oV r) h' := by
  unfold f_Sheet_dropRow at hf
  refine zv_p (k := 2) (f' := (2, [(0, .ref p0), (1, .int p1)], [.int p1, .ref p0])) zq_194 zo_194 (by with_unfolding_all rfl) ?_
  replace hf := zf_be hf
  obtain ⟨_, ho, hf⟩ := hf
  replace hf := zf_b2e hf
  obtain ⟨v1, h2, hv, hf⟩ := hf
  refine zv_c zq_194 zo_194 rfl rfl rfl rfl rfl (zv_cv rfl rfl rfl (zf_ise ho) rfl) (t_f_Sheet_hasRow _ _ _ _ _ hv) ?_
  replace hf := zf_ite hf
  obtain ⟨hc, hf⟩ | ⟨hc, hf⟩ := hf
  · refine zv_brT (off := 4) (tt := 9) (r := []) zq_194 zo_194 hc rfl rfl rfl ?_
    refine zv_p (k := 2) (f' := (11, [(2, .int (0 : Int32)), (0, .ref p0), (1, .int p1)], [])) zq_194 zo_194 (by with_unfolding_all rfl) ?_
    refine zv_pick (lv' := [(0, .ref p0), (1, .int p1), (2, .int (0 : Int32))]) [0, 1, 2] rfl rfl ?_
    exact t_f_Sheet_dropRow_11 zF _ _ _ _ _ _ hf
  · refine zv_brF (off := 4) (tt := 9) (r := []) zq_194 zo_194 hc rfl rfl rfl ?_
    cases hf
    exact zv_r zq_194 zo_194 rfl rfl rfl rfl rfl
/-! ColumnVault.remove (II)I -/
noncomputable def zI_193 : zd_T := [[(0, .aload_n 0, 1), (1, .iload_n 1, 1), (2, .invokevirtual 53, 3), (5, .iload_n 2, 1), (6, .invokestatic 108, 3), (9, .aload_n 0, 1), (10, .iload_n 1, 1), (11, .invokevirtual 75, 3), (14, .astore_n 3, 1), (15, .aload_n 3, 1), (16, .iload_n 2, 1), (17, .invokevirtual 126, 3), (20, .aload_n 3, 1), (21, .getfield 82, 3), (24, .ireturn, 1)]]
theorem zo_193 : zd_of 193 = some zI_193 := rfl
set_option maxRecDepth 100000 in
theorem zq_193 : zt_m[193]? = some (⟨"ColumnVault", "remove", "(II)I"⟩, prog_1_method_6_code, 4, some (.int), [], 12, 2, 0, 0, 0, 0) := rfl
set_option maxHeartbeats 1000000 in
def f_ColumnVault_remove (p0 : Nat) (p1 : Int32) (p2 : Int32) (h : zx_H) : Option ((Int32 ⊕ Nat) × zx_H) :=
  zf_b (zf_is 12 p0 h) fun _ =>
  zf_b3 (f_ColumnVault_sheetOf p0 p1 h) fun v1 h2 =>
  zf_b3 (f_ColumnVault_requireRow v1 p2 h2) fun _ h5 =>
  zf_b (zf_is 12 p0 h5) fun _ =>
  zf_b3 (f_ColumnVault_nextSheetOf p0 p1 h5) fun v7 h8 =>
  zf_b (zf_is 10 v7 h8) fun _ =>
  zf_b2 (f_Sheet_dropRow v7 p2 h8) fun _ h11 =>
  zf_b (zf_I 10 4 v7 h11) fun v12 =>
  some (.inl v12, h11)
set_option maxHeartbeats 4000000 in
set_option maxRecDepth 400000 in
theorem t_f_ColumnVault_remove {sc : (Nat × (Nat → Int32)) × Bool} {d : Nat} (p0 : Nat) (p1 : Int32) (p2 : Int32) (h : zx_H) (r : (Int32 ⊕ Nat)) (h' : zx_H) (hf : f_ColumnVault_remove p0 p1 p2 h = some (r, h')) : zx_T sc (d + 3) 193 (0, [(0, .ref p0), (1, .int p1), (2, .int p2)], []) h (zf_oIx r) h' := by
  unfold f_ColumnVault_remove at hf
  refine zv_p (k := 2) (f' := (2, [(0, .ref p0), (1, .int p1), (2, .int p2)], [.int p1, .ref p0])) zq_193 zo_193 (by with_unfolding_all rfl) ?_
  replace hf := zf_be hf
  obtain ⟨_, ho, hf⟩ := hf
  replace hf := zf_b3e hf
  obtain ⟨v1, h2, hv, hf⟩ | ⟨E3, h2, hv, hf⟩ := hf
  rotate_left
  · cases hf; exact zv_cx zq_193 zo_193 rfl rfl rfl rfl rfl (zv_cv rfl rfl rfl (zf_ise ho) rfl) (t_f_ColumnVault_sheetOf _ _ _ _ _ hv) rfl
  refine zv_c zq_193 zo_193 rfl rfl rfl rfl rfl (zv_cv rfl rfl rfl (zf_ise ho) rfl) (t_f_ColumnVault_sheetOf _ _ _ _ _ hv) ?_
  refine zv_p (k := 1) (f' := (6, [(0, .ref p0), (1, .int p1), (2, .int p2)], [.int p2, .ref v1])) zq_193 zo_193 (by with_unfolding_all rfl) ?_
  replace hf := zf_b3e hf
  obtain ⟨v4, h5, hv, hf⟩ | ⟨E6, h5, hv, hf⟩ := hf
  rotate_left
  · cases hf; exact zv_cx zq_193 zo_193 rfl rfl rfl rfl rfl rfl (t_f_ColumnVault_requireRow _ _ _ _ _ hv) rfl
  refine zv_c zq_193 zo_193 rfl rfl rfl rfl rfl rfl (t_f_ColumnVault_requireRow _ _ _ _ _ hv) ?_
  refine zv_p (k := 2) (f' := (11, [(0, .ref p0), (1, .int p1), (2, .int p2)], [.int p1, .ref p0])) zq_193 zo_193 (by with_unfolding_all rfl) ?_
  replace hf := zf_be hf
  obtain ⟨_, ho, hf⟩ := hf
  replace hf := zf_b3e hf
  obtain ⟨v7, h8, hv, hf⟩ | ⟨E9, h8, hv, hf⟩ := hf
  rotate_left
  · cases hf; exact zv_cx zq_193 zo_193 rfl rfl rfl rfl rfl (zv_cv rfl rfl rfl (zf_ise ho) rfl) (t_f_ColumnVault_nextSheetOf _ _ _ _ _ hv) rfl
  refine zv_c zq_193 zo_193 rfl rfl rfl rfl rfl (zv_cv rfl rfl rfl (zf_ise ho) rfl) (t_f_ColumnVault_nextSheetOf _ _ _ _ _ hv) ?_
  refine zv_p (k := 3) (f' := (17, [(3, .ref v7), (0, .ref p0), (1, .int p1), (2, .int p2)], [.int p2, .ref v7])) zq_193 zo_193 (by with_unfolding_all rfl) ?_
  replace hf := zf_be hf
  obtain ⟨_, ho, hf⟩ := hf
  replace hf := zf_b2e hf
  obtain ⟨v10, h11, hv, hf⟩ := hf
  refine zv_c zq_193 zo_193 rfl rfl rfl rfl rfl (zv_cv rfl rfl rfl (zf_ise ho) rfl) (t_f_Sheet_dropRow _ _ _ _ _ hv) ?_
  refine zv_p (k := 1) (f' := (21, [(3, .ref v7), (0, .ref p0), (1, .int p1), (2, .int p2)], [.ref v7])) zq_193 zo_193 (by with_unfolding_all rfl) ?_
  replace hf := zf_be hf
  obtain ⟨v12, hv, hf⟩ := hf
  refine zv_gf zq_193 zo_193 rfl rfl rfl (zf_Ie hv) ?_
  cases hf
  exact zv_rn zq_193 zo_193 rfl rfl
/-! ColumnVaultLaw.draws (LColumnVault;arr III)V -/
noncomputable def zI_127 : zd_T := [[(0, .iload_n 3, 1), (1, .newarray .int, 2), (3, .astore 4, 2), (5, .iconst 0, 1), (6, .istore 5, 2), (8, .iload 5, 2), (10, .iload_n 3, 1), (11, .if_icmp .ge 55, 3), (14, .aload 4, 2), (16, .iload 5, 2), (18, .iload 5, 2), (20, .ifCond .ne 7, 3), (23, .iconst 0, 1), (24, .goto 8, 3), (27, .aload_n 1, 1), (28, .iconst 2, 1), (29, .invokestatic 16, 3)], [(32, .iastore, 1), (33, .aload_n 0, 1), (34, .iload_n 2, 1), (35, .iconst 1, 1), (36, .invokevirtual 147, 3), (39, .iload 5, 2), (41, .if_icmp .ne 19, 3), (44, .aload_n 0, 1), (45, .iload_n 2, 1), (46, .aload 4, 2), (48, .iload 5, 2), (50, .iaload, 1), (51, .invokevirtual 76, 3), (54, .iload 5, 2), (56, .if_icmp .eq 4, 3), (59, .return_, 1), (60, .iinc 5 1, 3), (63, .goto (-55), 3)], [(66, .aload_n 1, 1), (67, .iconst 3, 1), (68, .invokestatic 16, 3), (71, .ifCond .ne 12, 3), (74, .aload_n 1, 1), (75, .bipush 20, 2), (77, .invokestatic 16, 3), (80, .goto 9, 3), (83, .aload_n 1, 1), (84, .bipush 9, 2), (86, .invokestatic 16, 3), (89, .istore 5, 2), (91, .aload_n 1, 1), (92, .iconst 3, 1), (93, .invokestatic 16, 3)], [(96, .ifCond .ne 39, 3), (99, .aload_n 0, 1), (100, .iload_n 2, 1), (101, .iconst 0, 1), (102, .aload_n 1, 1), (103, .bipush 41, 2), (105, .invokestatic 16, 3), (108, .bipush 20, 2), (110, .isub, 1), (111, .aload_n 1, 1), (112, .bipush 7, 2), (114, .invokestatic 16, 3), (117, .iconst 3, 1), (118, .isub, 1), (119, .iconst 1, 1), (120, .aload_n 1, 1), (121, .bipush 6, 2), (123, .invokestatic 16, 3), (126, .iadd, 1), (127, .invokevirtual 83, 3)], [(130, .iconst 1, 1), (131, .if_icmp .ge 4, 3), (134, .return_, 1), (135, .iconst 0, 1), (136, .istore 6, 2), (138, .iload 6, 2), (140, .iload 5, 2), (142, .if_icmp .ge 63, 3), (145, .aload_n 0, 1), (146, .iload_n 2, 1), (147, .invokevirtual 80, 3), (150, .istore 7, 2), (152, .iconst 0, 1), (153, .istore 8, 2), (155, .iload 8, 2), (157, .iload_n 3, 1), (158, .if_icmp .ge 41, 3)], [(161, .aload_n 1, 1), (162, .iconst 5, 1), (163, .invokestatic 16, 3), (166, .ifCond .le 27, 3), (169, .aload_n 0, 1), (170, .iload_n 2, 1), (171, .iload 7, 2), (173, .iload 8, 2), (175, .aload_n 1, 1), (176, .aload_n 0, 1), (177, .iload_n 2, 1), (178, .iload 8, 2), (180, .invokevirtual 166, 3), (183, .invokestatic 169, 3), (186, .invokevirtual 87, 3), (189, .ifCond .ne 4, 3)], [(192, .return_, 1), (193, .iinc 8 1, 3), (196, .goto (-41), 3), (199, .iinc 6 1, 3), (202, .goto (-64), 3), (205, .aload_n 0, 1), (206, .iload_n 2, 1), (207, .iconst 0, 1), (208, .invokevirtual 147, 3), (211, .iconst 1, 1), (212, .if_icmp .le 30, 3), (215, .aload_n 1, 1), (216, .iconst 2, 1), (217, .invokestatic 16, 3), (220, .ifCond .ne 22, 3), (223, .aload_n 0, 1)], [(224, .iload_n 2, 1), (225, .aload_n 1, 1), (226, .aload_n 0, 1), (227, .iload_n 2, 1), (228, .iconst 0, 1), (229, .invokevirtual 147, 3), (232, .invokestatic 16, 3), (235, .invokevirtual 173, 3), (238, .ifCond .ge 4, 3), (241, .return_, 1), (242, .return_, 1)]]
theorem zo_127 : zd_of 127 = some zI_127 := rfl
set_option maxRecDepth 100000 in
theorem zq_127 : zt_m[127]? = some (⟨"ColumnVaultLaw", "draws", "(LColumnVault;[III)V"⟩, method_10_code, 9, none, [], 17, 4, 0, 1, 99999, 0) := rfl
set_option maxHeartbeats 1000000 in
def f_ColumnVaultLaw_draws_32 (k8 : Nat → Nat → Int32 → Int32 → Nat → Int32 → zx_H → Option ((Unit ⊕ Nat) × zx_H)) (p0 : Nat) (p1 : Nat) (p2 : Int32) (p3 : Int32) (p4 : Nat) (p5 : Int32) (p6 : Nat) (p7 : Int32) (p8 : Int32) (h : zx_H) : Option ((Unit ⊕ Nat) × zx_H) :=
  zf_b (zf_stI p6 p7 p8 h) fun h1 =>
  zf_b (zf_is 12 p0 h1) fun _ =>
  zf_b3 (f_ColumnVault_size p0 p2 (1 : Int32) h1) fun v2 h3 =>
  if ¬ v2 = p5 then
    k8 p0 p1 p2 p3 p4 (p5 + (1 : Int32)) h3
  else
    zf_b (zf_ldI p4 p5 h3) fun v5 =>
    zf_b (zf_is 12 p0 h3) fun _ =>
    zf_b3 (f_ColumnVault_addColumn p0 p2 v5 h3) fun v6 h7 =>
    if v6 = p5 then
      k8 p0 p1 p2 p3 p4 (p5 + (1 : Int32)) h7
    else
      some (.inl (), h7)
set_option maxHeartbeats 4000000 in
set_option maxRecDepth 400000 in
theorem t_f_ColumnVaultLaw_draws_32 {sc : (Nat × (Nat → Int32)) × Bool} {d : Nat} {k8 : Nat → Nat → Int32 → Int32 → Nat → Int32 → zx_H → Option ((Unit ⊕ Nat) × zx_H)} (hk8 : ∀ (a0 : Nat) (a1 : Nat) (a2 : Int32) (a3 : Int32) (a4 : Nat) (a5 : Int32) (h : zx_H) (r : (Unit ⊕ Nat)) (h' : zx_H), k8 a0 a1 a2 a3 a4 a5 h = some (r, h') → zx_T sc (d + 8) 127 (8, [(0, .ref a0), (1, .ref a1), (2, .int a2), (3, .int a3), (4, .ref a4), (5, .int a5)], []) h (zf_oVx r) h') (p0 : Nat) (p1 : Nat) (p2 : Int32) (p3 : Int32) (p4 : Nat) (p5 : Int32) (p6 : Nat) (p7 : Int32) (p8 : Int32) (h : zx_H) (r : (Unit ⊕ Nat)) (h' : zx_H) (hf : f_ColumnVaultLaw_draws_32 k8 p0 p1 p2 p3 p4 p5 p6 p7 p8 h = some (r, h')) : zx_T sc (d + 8) 127 (32, [(0, .ref p0), (1, .ref p1), (2, .int p2), (3, .int p3), (4, .ref p4), (5, .int p5)], [.int p8, .int p7, .ref p6]) h (zf_oVx r) h' := by
  unfold f_ColumnVaultLaw_draws_32 at hf
  replace hf := zf_be hf
  obtain ⟨h1, hv, hf⟩ := hf
  refine zv_stI zq_127 zo_127 rfl hv ?_
  refine zv_p (k := 3) (f' := (36, [(0, .ref p0), (1, .ref p1), (2, .int p2), (3, .int p3), (4, .ref p4), (5, .int p5)], [.int (1 : Int32), .int p2, .ref p0])) zq_127 zo_127 (by with_unfolding_all rfl) ?_
  replace hf := zf_be hf
  obtain ⟨_, ho, hf⟩ := hf
  replace hf := zf_b3e hf
  obtain ⟨v2, h3, hv, hf⟩ | ⟨E4, h3, hv, hf⟩ := hf
  rotate_left
  · cases hf; exact zv_cx zq_127 zo_127 rfl rfl rfl rfl rfl (zv_cv rfl rfl rfl (zf_ise ho) rfl) (t_f_ColumnVault_size _ _ _ _ _ _ hv) rfl
  refine zv_c zq_127 zo_127 rfl rfl rfl rfl rfl (zv_cv rfl rfl rfl (zf_ise ho) rfl) (t_f_ColumnVault_size _ _ _ _ _ _ hv) ?_
  refine zv_p (k := 1) (f' := (41, [(0, .ref p0), (1, .ref p1), (2, .int p2), (3, .int p3), (4, .ref p4), (5, .int p5)], [.int p5, .int v2])) zq_127 zo_127 (by with_unfolding_all rfl) ?_
  replace hf := zf_ite hf
  obtain ⟨hc, hf⟩ | ⟨hc, hf⟩ := hf
  · refine zv_brT (off := 19) (tt := 60) (r := []) zq_127 zo_127 hc rfl rfl rfl ?_
    refine zv_p (k := 2) (f' := (8, [(5, .int (p5 + (1 : Int32))), (0, .ref p0), (1, .ref p1), (2, .int p2), (3, .int p3), (4, .ref p4)], [])) zq_127 zo_127 (by with_unfolding_all rfl) ?_
    refine zv_pick (lv' := [(0, .ref p0), (1, .ref p1), (2, .int p2), (3, .int p3), (4, .ref p4), (5, .int (p5 + (1 : Int32)))]) [0, 1, 2, 3, 4, 5] rfl rfl ?_
    exact hk8 _ _ _ _ _ _ _ _ _ hf
  · refine zv_brF (off := 19) (tt := 60) (r := []) zq_127 zo_127 hc rfl rfl rfl ?_
    refine zv_p (k := 4) (f' := (50, [(0, .ref p0), (1, .ref p1), (2, .int p2), (3, .int p3), (4, .ref p4), (5, .int p5)], [.int p5, .ref p4, .int p2, .ref p0])) zq_127 zo_127 (by with_unfolding_all rfl) ?_
    replace hf := zf_be hf
    obtain ⟨v5, hv, hf⟩ := hf
    refine zv_ldI zq_127 zo_127 rfl hv ?_
    replace hf := zf_be hf
    obtain ⟨_, ho, hf⟩ := hf
    replace hf := zf_b3e hf
    obtain ⟨v6, h7, hv, hf⟩ | ⟨E8, h7, hv, hf⟩ := hf
    rotate_left
    · cases hf; exact zv_cx zq_127 zo_127 rfl rfl rfl rfl rfl (zv_cv rfl rfl rfl (zf_ise ho) rfl) (t_f_ColumnVault_addColumn _ _ _ _ _ _ hv) rfl
    refine zv_c zq_127 zo_127 rfl rfl rfl rfl rfl (zv_cv rfl rfl rfl (zf_ise ho) rfl) (t_f_ColumnVault_addColumn _ _ _ _ _ _ hv) ?_
    refine zv_p (k := 1) (f' := (56, [(0, .ref p0), (1, .ref p1), (2, .int p2), (3, .int p3), (4, .ref p4), (5, .int p5)], [.int p5, .int v6])) zq_127 zo_127 (by with_unfolding_all rfl) ?_
    replace hf := zf_ite hf
    obtain ⟨hc, hf⟩ | ⟨hc, hf⟩ := hf
    · refine zv_brT (off := 4) (tt := 60) (r := []) zq_127 zo_127 hc rfl rfl rfl ?_
      refine zv_p (k := 2) (f' := (8, [(5, .int (p5 + (1 : Int32))), (0, .ref p0), (1, .ref p1), (2, .int p2), (3, .int p3), (4, .ref p4)], [])) zq_127 zo_127 (by with_unfolding_all rfl) ?_
      refine zv_pick (lv' := [(0, .ref p0), (1, .ref p1), (2, .int p2), (3, .int p3), (4, .ref p4), (5, .int (p5 + (1 : Int32)))]) [0, 1, 2, 3, 4, 5] rfl rfl ?_
      exact hk8 _ _ _ _ _ _ _ _ _ hf
    · refine zv_brF (off := 4) (tt := 60) (r := []) zq_127 zo_127 hc rfl rfl rfl ?_
      cases hf
      exact zv_r zq_127 zo_127 rfl rfl rfl rfl rfl
set_option maxHeartbeats 1000000 in
def f_ColumnVaultLaw_draws_155 (k138 : Nat → Nat → Int32 → Int32 → Int32 → Int32 → zx_H → Option ((Unit ⊕ Nat) × zx_H)) : Nat → Nat → Nat → Int32 → Int32 → Int32 → Int32 → Int32 → Int32 → zx_H → Option ((Unit ⊕ Nat) × zx_H)
  | 0, _, _, _, _, _, _, _, _, _ => none
  | n + 1, p0, p1, p2, p3, p4, p5, p6, p7, h =>
    if p3 ≤ p7 then
      k138 p0 p1 p2 p3 p4 (p5 + (1 : Int32)) h
    else
      zf_b2 (f_ColumnVaultLaw_draw p1 (5 : Int32) h) fun v1 h2 =>
      if v1 ≤ 0 then
        (f_ColumnVaultLaw_draws_155 k138 n) p0 p1 p2 p3 p4 p5 p6 (p7 + (1 : Int32)) h2
      else
        zf_b (zf_is 12 p0 h2) fun _ =>
        zf_b3 (f_ColumnVault_kind p0 p2 p7 h2) fun v3 h4 =>
        zf_b2 (f_ColumnVaultLaw_value p1 v3 h4) fun v6 h7 =>
        zf_b (zf_is 12 p0 h7) fun _ =>
        zf_b3 (f_ColumnVault_set p0 p2 p6 p7 v6 h7) fun v8 h9 =>
        if ¬ v8 = 0 then
          (f_ColumnVaultLaw_draws_155 k138 n) p0 p1 p2 p3 p4 p5 p6 (p7 + (1 : Int32)) h9
        else
          some (.inl (), h9)
set_option maxHeartbeats 4000000 in
set_option maxRecDepth 400000 in
theorem t_f_ColumnVaultLaw_draws_155 {sc : (Nat × (Nat → Int32)) × Bool} {d : Nat} {k138 : Nat → Nat → Int32 → Int32 → Int32 → Int32 → zx_H → Option ((Unit ⊕ Nat) × zx_H)} (hk138 : ∀ (a0 : Nat) (a1 : Nat) (a2 : Int32) (a3 : Int32) (a4 : Int32) (a5 : Int32) (h : zx_H) (r : (Unit ⊕ Nat)) (h' : zx_H), k138 a0 a1 a2 a3 a4 a5 h = some (r, h') → zx_T sc (d + 8) 127 (138, [(0, .ref a0), (1, .ref a1), (2, .int a2), (3, .int a3), (5, .int a4), (6, .int a5)], []) h (zf_oVx r) h') : ∀ (n : Nat) (p0 : Nat) (p1 : Nat) (p2 : Int32) (p3 : Int32) (p4 : Int32) (p5 : Int32) (p6 : Int32) (p7 : Int32) (h : zx_H) (r : (Unit ⊕ Nat)) (h' : zx_H), f_ColumnVaultLaw_draws_155 k138 n p0 p1 p2 p3 p4 p5 p6 p7 h = some (r, h') → zx_T sc (d + 8) 127 (155, [(0, .ref p0), (1, .ref p1), (2, .int p2), (3, .int p3), (5, .int p4), (6, .int p5), (7, .int p6), (8, .int p7)], []) h (zf_oVx r) h' := by
  intro n
  induction n with
  | zero => intro p0 p1 p2 p3 p4 p5 p6 p7 h r h' hf; cases hf
  | succ n ih =>
    intro p0 p1 p2 p3 p4 p5 p6 p7 h r h' hf
    unfold f_ColumnVaultLaw_draws_155 at hf
    refine zv_p (k := 2) (f' := (158, [(0, .ref p0), (1, .ref p1), (2, .int p2), (3, .int p3), (5, .int p4), (6, .int p5), (7, .int p6), (8, .int p7)], [.int p3, .int p7])) zq_127 zo_127 (by with_unfolding_all rfl) ?_
    replace hf := zf_ite hf
    obtain ⟨hc, hf⟩ | ⟨hc, hf⟩ := hf
    · refine zv_brT (off := 41) (tt := 199) (r := []) zq_127 zo_127 hc rfl rfl rfl ?_
      refine zv_p (k := 2) (f' := (138, [(6, .int (p5 + (1 : Int32))), (0, .ref p0), (1, .ref p1), (2, .int p2), (3, .int p3), (5, .int p4), (7, .int p6), (8, .int p7)], [])) zq_127 zo_127 (by with_unfolding_all rfl) ?_
      refine zv_pick (lv' := [(0, .ref p0), (1, .ref p1), (2, .int p2), (3, .int p3), (5, .int p4), (6, .int (p5 + (1 : Int32)))]) [0, 1, 2, 3, 5, 6] rfl rfl ?_
      exact hk138 _ _ _ _ _ _ _ _ _ hf
    · refine zv_brF (off := 41) (tt := 199) (r := []) zq_127 zo_127 hc rfl rfl rfl ?_
      refine zv_p (k := 2) (f' := (163, [(0, .ref p0), (1, .ref p1), (2, .int p2), (3, .int p3), (5, .int p4), (6, .int p5), (7, .int p6), (8, .int p7)], [.int (5 : Int32), .ref p1])) zq_127 zo_127 (by with_unfolding_all rfl) ?_
      replace hf := zf_b2e hf
      obtain ⟨v1, h2, hv, hf⟩ := hf
      refine zv_c zq_127 zo_127 rfl rfl rfl rfl rfl rfl (t_f_ColumnVaultLaw_draw _ _ _ _ _ hv) ?_
      replace hf := zf_ite hf
      obtain ⟨hc, hf⟩ | ⟨hc, hf⟩ := hf
      · refine zv_brT (off := 27) (tt := 193) (r := []) zq_127 zo_127 hc rfl rfl rfl ?_
        refine zv_p (k := 2) (f' := (155, [(8, .int (p7 + (1 : Int32))), (0, .ref p0), (1, .ref p1), (2, .int p2), (3, .int p3), (5, .int p4), (6, .int p5), (7, .int p6)], [])) zq_127 zo_127 (by with_unfolding_all rfl) ?_
        refine zv_pick (lv' := [(0, .ref p0), (1, .ref p1), (2, .int p2), (3, .int p3), (5, .int p4), (6, .int p5), (7, .int p6), (8, .int (p7 + (1 : Int32)))]) [0, 1, 2, 3, 5, 6, 7, 8] rfl rfl ?_
        exact ih _ _ _ _ _ _ _ _ _ _ _ hf
      · refine zv_brF (off := 27) (tt := 193) (r := []) zq_127 zo_127 hc rfl rfl rfl ?_
        refine zv_p (k := 8) (f' := (180, [(0, .ref p0), (1, .ref p1), (2, .int p2), (3, .int p3), (5, .int p4), (6, .int p5), (7, .int p6), (8, .int p7)], [.int p7, .int p2, .ref p0, .ref p1, .int p7, .int p6, .int p2, .ref p0])) zq_127 zo_127 (by with_unfolding_all rfl) ?_
        replace hf := zf_be hf
        obtain ⟨_, ho, hf⟩ := hf
        replace hf := zf_b3e hf
        obtain ⟨v3, h4, hv, hf⟩ | ⟨E5, h4, hv, hf⟩ := hf
        rotate_left
        · cases hf; exact zv_cx zq_127 zo_127 rfl rfl rfl rfl rfl (zv_cv rfl rfl rfl (zf_ise ho) rfl) (t_f_ColumnVault_kind _ _ _ _ _ _ hv) rfl
        refine zv_c zq_127 zo_127 rfl rfl rfl rfl rfl (zv_cv rfl rfl rfl (zf_ise ho) rfl) (t_f_ColumnVault_kind _ _ _ _ _ _ hv) ?_
        replace hf := zf_b2e hf
        obtain ⟨v6, h7, hv, hf⟩ := hf
        refine zv_c zq_127 zo_127 rfl rfl rfl rfl rfl rfl (t_f_ColumnVaultLaw_value _ _ _ _ _ hv) ?_
        replace hf := zf_be hf
        obtain ⟨_, ho, hf⟩ := hf
        replace hf := zf_b3e hf
        obtain ⟨v8, h9, hv, hf⟩ | ⟨E10, h9, hv, hf⟩ := hf
        rotate_left
        · cases hf; exact zv_cx zq_127 zo_127 rfl rfl rfl rfl rfl (zv_cv rfl rfl rfl (zf_ise ho) rfl) (t_f_ColumnVault_set _ _ _ _ _ _ _ _ hv) rfl
        refine zv_c zq_127 zo_127 rfl rfl rfl rfl rfl (zv_cv rfl rfl rfl (zf_ise ho) rfl) (t_f_ColumnVault_set _ _ _ _ _ _ _ _ hv) ?_
        replace hf := zf_ite hf
        obtain ⟨hc, hf⟩ | ⟨hc, hf⟩ := hf
        · refine zv_brT (off := 4) (tt := 193) (r := []) zq_127 zo_127 hc rfl rfl rfl ?_
          refine zv_p (k := 2) (f' := (155, [(8, .int (p7 + (1 : Int32))), (0, .ref p0), (1, .ref p1), (2, .int p2), (3, .int p3), (5, .int p4), (6, .int p5), (7, .int p6)], [])) zq_127 zo_127 (by with_unfolding_all rfl) ?_
          refine zv_pick (lv' := [(0, .ref p0), (1, .ref p1), (2, .int p2), (3, .int p3), (5, .int p4), (6, .int p5), (7, .int p6), (8, .int (p7 + (1 : Int32)))]) [0, 1, 2, 3, 5, 6, 7, 8] rfl rfl ?_
          exact ih _ _ _ _ _ _ _ _ _ _ _ hf
        · refine zv_brF (off := 4) (tt := 193) (r := []) zq_127 zo_127 hc rfl rfl rfl ?_
          cases hf
          exact zv_r zq_127 zo_127 rfl rfl rfl rfl rfl
set_option maxHeartbeats 1000000 in
def f_ColumnVaultLaw_draws_138 : Nat → Nat → Nat → Int32 → Int32 → Int32 → Int32 → zx_H → Option ((Unit ⊕ Nat) × zx_H)
  | 0, _, _, _, _, _, _, _ => none
  | n + 1, p0, p1, p2, p3, p4, p5, h =>
    if p4 ≤ p5 then
      zf_b (zf_is 12 p0 h) fun _ =>
      zf_b3 (f_ColumnVault_size p0 p2 (0 : Int32) h) fun v1 h2 =>
      if v1 ≤ (1 : Int32) then
        some (.inl (), h2)
      else
        zf_b2 (f_ColumnVaultLaw_draw p1 (2 : Int32) h2) fun v4 h5 =>
        if ¬ v4 = 0 then
          some (.inl (), h5)
        else
          zf_b (zf_is 12 p0 h5) fun _ =>
          zf_b3 (f_ColumnVault_size p0 p2 (0 : Int32) h5) fun v6 h7 =>
          zf_b2 (f_ColumnVaultLaw_draw p1 v6 h7) fun v9 h10 =>
          zf_b (zf_is 12 p0 h10) fun _ =>
          zf_b3 (f_ColumnVault_remove p0 p2 v9 h10) fun v11 h12 =>
          if 0 ≤ v11 then
            some (.inl (), h12)
          else
            some (.inl (), h12)
    else
      zf_b (zf_is 12 p0 h) fun _ =>
      zf_b3 (f_ColumnVault_addRow p0 p2 h) fun v14 h15 =>
      f_ColumnVaultLaw_draws_155 (f_ColumnVaultLaw_draws_138 n) zF p0 p1 p2 p3 p4 p5 v14 (0 : Int32) h15
set_option maxHeartbeats 4000000 in
set_option maxRecDepth 400000 in
theorem t_f_ColumnVaultLaw_draws_138 {sc : (Nat × (Nat → Int32)) × Bool} {d : Nat} : ∀ (n : Nat) (p0 : Nat) (p1 : Nat) (p2 : Int32) (p3 : Int32) (p4 : Int32) (p5 : Int32) (h : zx_H) (r : (Unit ⊕ Nat)) (h' : zx_H), f_ColumnVaultLaw_draws_138 n p0 p1 p2 p3 p4 p5 h = some (r, h') → zx_T sc (d + 8) 127 (138, [(0, .ref p0), (1, .ref p1), (2, .int p2), (3, .int p3), (5, .int p4), (6, .int p5)], []) h (zf_oVx r) h' := by
  intro n
  induction n with
  | zero => intro p0 p1 p2 p3 p4 p5 h r h' hf; cases hf
  | succ n ih =>
    intro p0 p1 p2 p3 p4 p5 h r h' hf
    unfold f_ColumnVaultLaw_draws_138 at hf
    refine zv_p (k := 2) (f' := (142, [(0, .ref p0), (1, .ref p1), (2, .int p2), (3, .int p3), (5, .int p4), (6, .int p5)], [.int p4, .int p5])) zq_127 zo_127 (by with_unfolding_all rfl) ?_
    replace hf := zf_ite hf
    obtain ⟨hc, hf⟩ | ⟨hc, hf⟩ := hf
    · refine zv_brT (off := 63) (tt := 205) (r := []) zq_127 zo_127 hc rfl rfl rfl ?_
      refine zv_p (k := 3) (f' := (208, [(0, .ref p0), (1, .ref p1), (2, .int p2), (3, .int p3), (5, .int p4), (6, .int p5)], [.int (0 : Int32), .int p2, .ref p0])) zq_127 zo_127 (by with_unfolding_all rfl) ?_
      replace hf := zf_be hf
      obtain ⟨_, ho, hf⟩ := hf
      replace hf := zf_b3e hf
      obtain ⟨v1, h2, hv, hf⟩ | ⟨E3, h2, hv, hf⟩ := hf
      rotate_left
      · cases hf; exact zv_cx zq_127 zo_127 rfl rfl rfl rfl rfl (zv_cv rfl rfl rfl (zf_ise ho) rfl) (t_f_ColumnVault_size _ _ _ _ _ _ hv) rfl
      refine zv_c zq_127 zo_127 rfl rfl rfl rfl rfl (zv_cv rfl rfl rfl (zf_ise ho) rfl) (t_f_ColumnVault_size _ _ _ _ _ _ hv) ?_
      refine zv_p (k := 1) (f' := (212, [(0, .ref p0), (1, .ref p1), (2, .int p2), (3, .int p3), (5, .int p4), (6, .int p5)], [.int (1 : Int32), .int v1])) zq_127 zo_127 (by with_unfolding_all rfl) ?_
      replace hf := zf_ite hf
      obtain ⟨hc, hf⟩ | ⟨hc, hf⟩ := hf
      · refine zv_brT (off := 30) (tt := 242) (r := []) zq_127 zo_127 hc rfl rfl rfl ?_
        cases hf
        exact zv_r zq_127 zo_127 rfl rfl rfl rfl rfl
      · refine zv_brF (off := 30) (tt := 242) (r := []) zq_127 zo_127 hc rfl rfl rfl ?_
        refine zv_p (k := 2) (f' := (217, [(0, .ref p0), (1, .ref p1), (2, .int p2), (3, .int p3), (5, .int p4), (6, .int p5)], [.int (2 : Int32), .ref p1])) zq_127 zo_127 (by with_unfolding_all rfl) ?_
        replace hf := zf_b2e hf
        obtain ⟨v4, h5, hv, hf⟩ := hf
        refine zv_c zq_127 zo_127 rfl rfl rfl rfl rfl rfl (t_f_ColumnVaultLaw_draw _ _ _ _ _ hv) ?_
        replace hf := zf_ite hf
        obtain ⟨hc, hf⟩ | ⟨hc, hf⟩ := hf
        · refine zv_brT (off := 22) (tt := 242) (r := []) zq_127 zo_127 hc rfl rfl rfl ?_
          cases hf
          exact zv_r zq_127 zo_127 rfl rfl rfl rfl rfl
        · refine zv_brF (off := 22) (tt := 242) (r := []) zq_127 zo_127 hc rfl rfl rfl ?_
          refine zv_p (k := 6) (f' := (229, [(0, .ref p0), (1, .ref p1), (2, .int p2), (3, .int p3), (5, .int p4), (6, .int p5)], [.int (0 : Int32), .int p2, .ref p0, .ref p1, .int p2, .ref p0])) zq_127 zo_127 (by with_unfolding_all rfl) ?_
          replace hf := zf_be hf
          obtain ⟨_, ho, hf⟩ := hf
          replace hf := zf_b3e hf
          obtain ⟨v6, h7, hv, hf⟩ | ⟨E8, h7, hv, hf⟩ := hf
          rotate_left
          · cases hf; exact zv_cx zq_127 zo_127 rfl rfl rfl rfl rfl (zv_cv rfl rfl rfl (zf_ise ho) rfl) (t_f_ColumnVault_size _ _ _ _ _ _ hv) rfl
          refine zv_c zq_127 zo_127 rfl rfl rfl rfl rfl (zv_cv rfl rfl rfl (zf_ise ho) rfl) (t_f_ColumnVault_size _ _ _ _ _ _ hv) ?_
          replace hf := zf_b2e hf
          obtain ⟨v9, h10, hv, hf⟩ := hf
          refine zv_c zq_127 zo_127 rfl rfl rfl rfl rfl rfl (t_f_ColumnVaultLaw_draw _ _ _ _ _ hv) ?_
          replace hf := zf_be hf
          obtain ⟨_, ho, hf⟩ := hf
          replace hf := zf_b3e hf
          obtain ⟨v11, h12, hv, hf⟩ | ⟨E13, h12, hv, hf⟩ := hf
          rotate_left
          · cases hf; exact zv_cx zq_127 zo_127 rfl rfl rfl rfl rfl (zv_cv rfl rfl rfl (zf_ise ho) rfl) (t_f_ColumnVault_remove _ _ _ _ _ _ hv) rfl
          refine zv_c zq_127 zo_127 rfl rfl rfl rfl rfl (zv_cv rfl rfl rfl (zf_ise ho) rfl) (t_f_ColumnVault_remove _ _ _ _ _ _ hv) ?_
          replace hf := zf_ite hf
          obtain ⟨hc, hf⟩ | ⟨hc, hf⟩ := hf
          · refine zv_brT (off := 4) (tt := 242) (r := []) zq_127 zo_127 hc rfl rfl rfl ?_
            cases hf
            exact zv_r zq_127 zo_127 rfl rfl rfl rfl rfl
          · refine zv_brF (off := 4) (tt := 242) (r := []) zq_127 zo_127 hc rfl rfl rfl ?_
            cases hf
            exact zv_r zq_127 zo_127 rfl rfl rfl rfl rfl
    · refine zv_brF (off := 63) (tt := 205) (r := []) zq_127 zo_127 hc rfl rfl rfl ?_
      refine zv_p (k := 2) (f' := (147, [(0, .ref p0), (1, .ref p1), (2, .int p2), (3, .int p3), (5, .int p4), (6, .int p5)], [.int p2, .ref p0])) zq_127 zo_127 (by with_unfolding_all rfl) ?_
      replace hf := zf_be hf
      obtain ⟨_, ho, hf⟩ := hf
      replace hf := zf_b3e hf
      obtain ⟨v14, h15, hv, hf⟩ | ⟨E16, h15, hv, hf⟩ := hf
      rotate_left
      · cases hf; exact zv_cx zq_127 zo_127 rfl rfl rfl rfl rfl (zv_cv rfl rfl rfl (zf_ise ho) rfl) (t_f_ColumnVault_addRow _ _ _ _ _ hv) rfl
      refine zv_c zq_127 zo_127 rfl rfl rfl rfl rfl (zv_cv rfl rfl rfl (zf_ise ho) rfl) (t_f_ColumnVault_addRow _ _ _ _ _ hv) ?_
      refine zv_p (k := 3) (f' := (155, [(8, .int (0 : Int32)), (7, .int v14), (0, .ref p0), (1, .ref p1), (2, .int p2), (3, .int p3), (5, .int p4), (6, .int p5)], [])) zq_127 zo_127 (by with_unfolding_all rfl) ?_
      refine zv_pick (lv' := [(0, .ref p0), (1, .ref p1), (2, .int p2), (3, .int p3), (5, .int p4), (6, .int p5), (7, .int v14), (8, .int (0 : Int32))]) [0, 1, 2, 3, 5, 6, 7, 8] rfl rfl ?_
      exact t_f_ColumnVaultLaw_draws_155 ih zF _ _ _ _ _ _ _ _ _ _ _ hf
