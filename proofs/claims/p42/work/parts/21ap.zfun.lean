set_option maxHeartbeats 1000000 in
def f_Groups_valueAt (p0 : Nat) (p1 : Int32) (h : zx_H) : Option (Int64 × zx_H) :=
  zf_b (zf_A 5 0 p0 h) fun v1 =>
  zf_b (zf_I 5 3 p0 h) fun v2 =>
  zf_b (zf_is 10 v1 h) fun _ =>
  zf_b2 (f_Sheet_kindOf v1 v2 h) fun v3 h4 =>
  zf_b (zf_is 5 p0 h4) fun _ =>
  zf_b2 (f_Groups_keyOfGroup p0 p1 h4) fun v5 h6 =>
  zf_b2 (f_ColumnVault_toldOf v3 v5 h6) fun v7 h8 =>
  some (v7, h8)
set_option maxHeartbeats 4000000 in
set_option maxRecDepth 400000 in
theorem t_f_Groups_valueAt {sc : (Nat × (Nat → Int32)) × Bool} {d : Nat} (p0 : Nat) (p1 : Int32) (h : zx_H) (r : Int64) (h' : zx_H) (hf : f_Groups_valueAt p0 p1 h = some (r, h')) : zx_T sc (d + 2) 97 (0, [(0, .ref p0), (1, .int p1)], []) h (zf_oJ r) h' := by
  unfold f_Groups_valueAt at hf
  refine zv_p (k := 1) (f' := (1, [(0, .ref p0), (1, .int p1)], [.ref p0])) zq_97 zo_97 (by with_unfolding_all rfl) ?_
  replace hf := zf_be hf
  obtain ⟨v1, hv, hf⟩ := hf
  refine zv_gf zq_97 zo_97 rfl rfl rfl (zf_Ae hv) ?_
  refine zv_p (k := 1) (f' := (5, [(0, .ref p0), (1, .int p1)], [.ref p0, .ref v1])) zq_97 zo_97 (by with_unfolding_all rfl) ?_
  replace hf := zf_be hf
  obtain ⟨v2, hv, hf⟩ := hf
  refine zv_gf zq_97 zo_97 rfl rfl rfl (zf_Ie hv) ?_
  replace hf := zf_be hf
  obtain ⟨_, ho, hf⟩ := hf
  replace hf := zf_b2e hf
  obtain ⟨v3, h4, hv, hf⟩ := hf
  refine zv_c zq_97 zo_97 rfl rfl rfl rfl rfl (zv_cv rfl rfl rfl (zf_ise ho) rfl) (t_f_Sheet_kindOf _ _ _ _ _ hv) ?_
  refine zv_p (k := 2) (f' := (13, [(0, .ref p0), (1, .int p1)], [.int p1, .ref p0, .int v3])) zq_97 zo_97 (by with_unfolding_all rfl) ?_
  replace hf := zf_be hf
  obtain ⟨_, ho, hf⟩ := hf
  replace hf := zf_b2e hf
  obtain ⟨v5, h6, hv, hf⟩ := hf
  refine zv_c zq_97 zo_97 rfl rfl rfl rfl rfl (zv_cv rfl rfl rfl (zf_ise ho) rfl) (t_f_Groups_keyOfGroup _ _ _ _ _ hv) ?_
  replace hf := zf_b2e hf
  obtain ⟨v7, h8, hv, hf⟩ := hf
  refine zv_c zq_97 zo_97 rfl rfl rfl rfl rfl rfl (t_f_ColumnVault_toldOf _ _ _ _ _ hv) ?_
  cases hf
  exact zv_r zq_97 zo_97 rfl rfl rfl rfl rfl
/-! ColumnVault$Groups.rowsIn (I)J -/
noncomputable def zI_99 : zd_T := [[(0, .iload_n 1, 1), (1, .ifCond .lt 20, 3), (4, .iload_n 1, 1), (5, .aload_n 0, 1), (6, .getfield 29, 3), (9, .if_icmp .ge 12, 3), (12, .aload_n 0, 1), (13, .getfield 22, 3), (16, .iload_n 1, 1), (17, .laload, 1), (18, .goto 4, 3), (21, .lconst 0, 1), (22, .lreturn, 1)]]
theorem zo_99 : zd_of 99 = some zI_99 := rfl
set_option maxRecDepth 100000 in
theorem zq_99 : zt_m[99]? = some (⟨"ColumnVault$Groups", "rowsIn", "(I)J"⟩, prog_5_method_7_code, 2, some (.long), [], 5, 1, 0, 0, 0, 0) := rfl
set_option maxHeartbeats 1000000 in
def f_Groups_rowsIn (p0 : Nat) (p1 : Int32) (h : zx_H) : Option (Int64 × zx_H) :=
  if p1 < 0 then
    some ((0 : Int64), h)
  else
    zf_b (zf_I 5 4 p0 h) fun v1 =>
    if v1 ≤ p1 then
      some ((0 : Int64), h)
    else
      zf_b (zf_A 5 2 p0 h) fun v2 =>
      zf_b (zf_ldJ v2 p1 h) fun v3 =>
      some (v3, h)
set_option maxHeartbeats 4000000 in
set_option maxRecDepth 400000 in
theorem t_f_Groups_rowsIn {sc : (Nat × (Nat → Int32)) × Bool} {d : Nat} (p0 : Nat) (p1 : Int32) (h : zx_H) (r : Int64) (h' : zx_H) (hf : f_Groups_rowsIn p0 p1 h = some (r, h')) : zx_T sc d 99 (0, [(0, .ref p0), (1, .int p1)], []) h (zf_oJ r) h' := by
  unfold f_Groups_rowsIn at hf
  refine zv_p (k := 1) (f' := (1, [(0, .ref p0), (1, .int p1)], [.int p1])) zq_99 zo_99 (by with_unfolding_all rfl) ?_
  replace hf := zf_ite hf
  obtain ⟨hc, hf⟩ | ⟨hc, hf⟩ := hf
  · refine zv_brT (off := 20) (tt := 21) (r := []) zq_99 zo_99 hc rfl rfl rfl ?_
    refine zv_p (k := 1) (f' := (22, [(0, .ref p0), (1, .int p1)], [.long (0 : Int64)])) zq_99 zo_99 (by with_unfolding_all rfl) ?_
    cases hf
    exact zv_r zq_99 zo_99 rfl rfl rfl rfl rfl
  · refine zv_brF (off := 20) (tt := 21) (r := []) zq_99 zo_99 hc rfl rfl rfl ?_
    refine zv_p (k := 2) (f' := (6, [(0, .ref p0), (1, .int p1)], [.ref p0, .int p1])) zq_99 zo_99 (by with_unfolding_all rfl) ?_
    replace hf := zf_be hf
    obtain ⟨v1, hv, hf⟩ := hf
    refine zv_gf zq_99 zo_99 rfl rfl rfl (zf_Ie hv) ?_
    replace hf := zf_ite hf
    obtain ⟨hc, hf⟩ | ⟨hc, hf⟩ := hf
    · refine zv_brT (off := 12) (tt := 21) (r := []) zq_99 zo_99 hc rfl rfl rfl ?_
      refine zv_p (k := 1) (f' := (22, [(0, .ref p0), (1, .int p1)], [.long (0 : Int64)])) zq_99 zo_99 (by with_unfolding_all rfl) ?_
      cases hf
      exact zv_r zq_99 zo_99 rfl rfl rfl rfl rfl
    · refine zv_brF (off := 12) (tt := 21) (r := []) zq_99 zo_99 hc rfl rfl rfl ?_
      refine zv_p (k := 1) (f' := (13, [(0, .ref p0), (1, .int p1)], [.ref p0])) zq_99 zo_99 (by with_unfolding_all rfl) ?_
      replace hf := zf_be hf
      obtain ⟨v2, hv, hf⟩ := hf
      refine zv_gf zq_99 zo_99 rfl rfl rfl (zf_Ae hv) ?_
      refine zv_p (k := 1) (f' := (17, [(0, .ref p0), (1, .int p1)], [.int p1, .ref v2])) zq_99 zo_99 (by with_unfolding_all rfl) ?_
      replace hf := zf_be hf
      obtain ⟨v3, hv, hf⟩ := hf
      refine zv_ldJ zq_99 zo_99 rfl hv ?_
      refine zv_p (k := 1) (f' := (22, [(0, .ref p0), (1, .int p1)], [.long v3])) zq_99 zo_99 (by with_unfolding_all rfl) ?_
      cases hf
      exact zv_r zq_99 zo_99 rfl rfl rfl rfl rfl
/-! ColumnVault$Sheet.firstOf (J)I -/
noncomputable def zI_100 : zd_T := [[(0, .iconst 0, 1), (1, .istore_n 3, 1), (2, .iload_n 3, 1), (3, .aload_n 0, 1), (4, .getfield 26, 3), (7, .if_icmp .ge 29, 3), (10, .lload_n 1, 1), (11, .aload_n 0, 1), (12, .getfield 19, 3), (15, .iload_n 3, 1), (16, .iaload, 1), (17, .invokestatic 86, 3), (20, .ifCond .eq 10, 3), (23, .aload_n 0, 1), (24, .getfield 19, 3), (27, .iload_n 3, 1), (28, .iaload, 1), (29, .ireturn, 1), (30, .iinc 3 1, 3)], [(33, .goto (-31), 3), (36, .iconst (-1), 1), (37, .ireturn, 1)]]
theorem zo_100 : zd_of 100 = some zI_100 := rfl
set_option maxRecDepth 100000 in
theorem zq_100 : zt_m[100]? = some (⟨"ColumnVault$Sheet", "firstOf", "(J)I"⟩, prog_10_method_19_code, 4, some (.int), [], 10, 1, 0, 0, 0, 0) := rfl
set_option maxHeartbeats 1000000 in
def f_Sheet_firstOf_2 : Nat → Nat → Int64 → Int32 → zx_H → Option (Int32 × zx_H)
  | 0, _, _, _, _ => none
  | n + 1, p0, p1, p2, h =>
    zf_b (zf_I 10 4 p0 h) fun v1 =>
    if v1 ≤ p2 then
      some ((-1 : Int32), h)
    else
      zf_b (zf_A 10 2 p0 h) fun v2 =>
      zf_b (zf_ldI v2 p2 h) fun v3 =>
      zf_b2 (f_ColumnVault_holdsRow p1 v3 h) fun v4 h5 =>
      if v4 = 0 then
        (f_Sheet_firstOf_2 n) p0 p1 (p2 + (1 : Int32)) h5
      else
        zf_b (zf_A 10 2 p0 h5) fun v6 =>
        zf_b (zf_ldI v6 p2 h5) fun v7 =>
        some (v7, h5)
set_option maxHeartbeats 4000000 in
set_option maxRecDepth 400000 in
theorem t_f_Sheet_firstOf_2 {sc : (Nat × (Nat → Int32)) × Bool} {d : Nat} : ∀ (n : Nat) (p0 : Nat) (p1 : Int64) (p2 : Int32) (h : zx_H) (r : Int32) (h' : zx_H), f_Sheet_firstOf_2 n p0 p1 p2 h = some (r, h') → zx_T sc (d + 1) 100 (2, [(0, .ref p0), (1, .long p1), (3, .int p2)], []) h (zf_oI r) h' := by
  intro n
  induction n with
  | zero => intro p0 p1 p2 h r h' hf; cases hf
  | succ n ih =>
    intro p0 p1 p2 h r h' hf
    unfold f_Sheet_firstOf_2 at hf
    refine zv_p (k := 2) (f' := (4, [(0, .ref p0), (1, .long p1), (3, .int p2)], [.ref p0, .int p2])) zq_100 zo_100 (by with_unfolding_all rfl) ?_
    replace hf := zf_be hf
    obtain ⟨v1, hv, hf⟩ := hf
    refine zv_gf zq_100 zo_100 rfl rfl rfl (zf_Ie hv) ?_
    replace hf := zf_ite hf
    obtain ⟨hc, hf⟩ | ⟨hc, hf⟩ := hf
    · refine zv_brT (off := 29) (tt := 36) (r := []) zq_100 zo_100 hc rfl rfl rfl ?_
      refine zv_p (k := 1) (f' := (37, [(0, .ref p0), (1, .long p1), (3, .int p2)], [.int (-1 : Int32)])) zq_100 zo_100 (by with_unfolding_all rfl) ?_
      cases hf
      exact zv_rn zq_100 zo_100 rfl rfl
    · refine zv_brF (off := 29) (tt := 36) (r := []) zq_100 zo_100 hc rfl rfl rfl ?_
      refine zv_p (k := 2) (f' := (12, [(0, .ref p0), (1, .long p1), (3, .int p2)], [.ref p0, .long p1])) zq_100 zo_100 (by with_unfolding_all rfl) ?_
      replace hf := zf_be hf
      obtain ⟨v2, hv, hf⟩ := hf
      refine zv_gf zq_100 zo_100 rfl rfl rfl (zf_Ae hv) ?_
      refine zv_p (k := 1) (f' := (16, [(0, .ref p0), (1, .long p1), (3, .int p2)], [.int p2, .ref v2, .long p1])) zq_100 zo_100 (by with_unfolding_all rfl) ?_
      replace hf := zf_be hf
      obtain ⟨v3, hv, hf⟩ := hf
      refine zv_ldI zq_100 zo_100 rfl hv ?_
      replace hf := zf_b2e hf
      obtain ⟨v4, h5, hv, hf⟩ := hf
      refine zv_c zq_100 zo_100 rfl rfl rfl rfl rfl rfl (t_f_ColumnVault_holdsRow _ _ _ _ _ hv) ?_
      replace hf := zf_ite hf
      obtain ⟨hc, hf⟩ | ⟨hc, hf⟩ := hf
      · refine zv_brT (off := 10) (tt := 30) (r := []) zq_100 zo_100 hc rfl rfl rfl ?_
        refine zv_p (k := 2) (f' := (2, [(3, .int (p2 + (1 : Int32))), (0, .ref p0), (1, .long p1)], [])) zq_100 zo_100 (by with_unfolding_all rfl) ?_
        refine zv_pick (lv' := [(0, .ref p0), (1, .long p1), (3, .int (p2 + (1 : Int32)))]) [0, 1, 3] rfl rfl ?_
        exact ih _ _ _ _ _ _ hf
      · refine zv_brF (off := 10) (tt := 30) (r := []) zq_100 zo_100 hc rfl rfl rfl ?_
        refine zv_p (k := 1) (f' := (24, [(0, .ref p0), (1, .long p1), (3, .int p2)], [.ref p0])) zq_100 zo_100 (by with_unfolding_all rfl) ?_
        replace hf := zf_be hf
        obtain ⟨v6, hv, hf⟩ := hf
        refine zv_gf zq_100 zo_100 rfl rfl rfl (zf_Ae hv) ?_
        refine zv_p (k := 1) (f' := (28, [(0, .ref p0), (1, .long p1), (3, .int p2)], [.int p2, .ref v6])) zq_100 zo_100 (by with_unfolding_all rfl) ?_
        replace hf := zf_be hf
        obtain ⟨v7, hv, hf⟩ := hf
        refine zv_ldI zq_100 zo_100 rfl hv ?_
        cases hf
        exact zv_rn zq_100 zo_100 rfl rfl
set_option maxHeartbeats 1000000 in
def f_Sheet_firstOf (p0 : Nat) (p1 : Int64) (h : zx_H) : Option (Int32 × zx_H) :=
  f_Sheet_firstOf_2 zF p0 p1 (0 : Int32) h
set_option maxHeartbeats 4000000 in
set_option maxRecDepth 400000 in
theorem t_f_Sheet_firstOf {sc : (Nat × (Nat → Int32)) × Bool} {d : Nat} (p0 : Nat) (p1 : Int64) (h : zx_H) (r : Int32) (h' : zx_H) (hf : f_Sheet_firstOf p0 p1 h = some (r, h')) : zx_T sc (d + 1) 100 (0, [(0, .ref p0), (1, .long p1)], []) h (zf_oI r) h' := by
  unfold f_Sheet_firstOf at hf
  refine zv_p (k := 2) (f' := (2, [(3, .int (0 : Int32)), (0, .ref p0), (1, .long p1)], [])) zq_100 zo_100 (by with_unfolding_all rfl) ?_
  refine zv_pick (lv' := [(0, .ref p0), (1, .long p1), (3, .int (0 : Int32))]) [0, 1, 3] rfl rfl ?_
  exact t_f_Sheet_firstOf_2 zF _ _ _ _ _ _ hf
/-! ColumnVault$Sheet.lastOf (J)I -/
noncomputable def zI_101 : zd_T := [[(0, .aload_n 0, 1), (1, .getfield 26, 3), (4, .iconst 1, 1), (5, .isub, 1), (6, .istore_n 3, 1), (7, .iload_n 3, 1), (8, .ifCond .lt 29, 3), (11, .lload_n 1, 1), (12, .aload_n 0, 1), (13, .getfield 19, 3), (16, .iload_n 3, 1), (17, .iaload, 1), (18, .invokestatic 86, 3), (21, .ifCond .eq 10, 3), (24, .aload_n 0, 1), (25, .getfield 19, 3), (28, .iload_n 3, 1), (29, .iaload, 1), (30, .ireturn, 1), (31, .iinc 3 (-1), 3)], [(34, .goto (-27), 3), (37, .iconst (-1), 1), (38, .ireturn, 1)]]
theorem zo_101 : zd_of 101 = some zI_101 := rfl
set_option maxRecDepth 100000 in
theorem zq_101 : zt_m[101]? = some (⟨"ColumnVault$Sheet", "lastOf", "(J)I"⟩, prog_10_method_20_code, 4, some (.int), [], 10, 1, 0, 0, 0, 0) := rfl
set_option maxHeartbeats 1000000 in
def f_Sheet_lastOf_7 : Nat → Nat → Int64 → Int32 → zx_H → Option (Int32 × zx_H)
  | 0, _, _, _, _ => none
  | n + 1, p0, p1, p2, h =>
    if p2 < 0 then
      some ((-1 : Int32), h)
    else
      zf_b (zf_A 10 2 p0 h) fun v1 =>
      zf_b (zf_ldI v1 p2 h) fun v2 =>
      zf_b2 (f_ColumnVault_holdsRow p1 v2 h) fun v3 h4 =>
      if v3 = 0 then
        (f_Sheet_lastOf_7 n) p0 p1 (p2 + (-1 : Int32)) h4
      else
        zf_b (zf_A 10 2 p0 h4) fun v5 =>
        zf_b (zf_ldI v5 p2 h4) fun v6 =>
        some (v6, h4)
set_option maxHeartbeats 4000000 in
set_option maxRecDepth 400000 in
theorem t_f_Sheet_lastOf_7 {sc : (Nat × (Nat → Int32)) × Bool} {d : Nat} : ∀ (n : Nat) (p0 : Nat) (p1 : Int64) (p2 : Int32) (h : zx_H) (r : Int32) (h' : zx_H), f_Sheet_lastOf_7 n p0 p1 p2 h = some (r, h') → zx_T sc (d + 1) 101 (7, [(0, .ref p0), (1, .long p1), (3, .int p2)], []) h (zf_oI r) h' := by
  intro n
  induction n with
  | zero => intro p0 p1 p2 h r h' hf; cases hf
  | succ n ih =>
    intro p0 p1 p2 h r h' hf
    unfold f_Sheet_lastOf_7 at hf
    refine zv_p (k := 1) (f' := (8, [(0, .ref p0), (1, .long p1), (3, .int p2)], [.int p2])) zq_101 zo_101 (by with_unfolding_all rfl) ?_
    replace hf := zf_ite hf
    obtain ⟨hc, hf⟩ | ⟨hc, hf⟩ := hf
    · refine zv_brT (off := 29) (tt := 37) (r := []) zq_101 zo_101 hc rfl rfl rfl ?_
      refine zv_p (k := 1) (f' := (38, [(0, .ref p0), (1, .long p1), (3, .int p2)], [.int (-1 : Int32)])) zq_101 zo_101 (by with_unfolding_all rfl) ?_
      cases hf
      exact zv_rn zq_101 zo_101 rfl rfl
    · refine zv_brF (off := 29) (tt := 37) (r := []) zq_101 zo_101 hc rfl rfl rfl ?_
      refine zv_p (k := 2) (f' := (13, [(0, .ref p0), (1, .long p1), (3, .int p2)], [.ref p0, .long p1])) zq_101 zo_101 (by with_unfolding_all rfl) ?_
      replace hf := zf_be hf
      obtain ⟨v1, hv, hf⟩ := hf
      refine zv_gf zq_101 zo_101 rfl rfl rfl (zf_Ae hv) ?_
      refine zv_p (k := 1) (f' := (17, [(0, .ref p0), (1, .long p1), (3, .int p2)], [.int p2, .ref v1, .long p1])) zq_101 zo_101 (by with_unfolding_all rfl) ?_
      replace hf := zf_be hf
      obtain ⟨v2, hv, hf⟩ := hf
      refine zv_ldI zq_101 zo_101 rfl hv ?_
      replace hf := zf_b2e hf
      obtain ⟨v3, h4, hv, hf⟩ := hf
      refine zv_c zq_101 zo_101 rfl rfl rfl rfl rfl rfl (t_f_ColumnVault_holdsRow _ _ _ _ _ hv) ?_
      replace hf := zf_ite hf
      obtain ⟨hc, hf⟩ | ⟨hc, hf⟩ := hf
      · refine zv_brT (off := 10) (tt := 31) (r := []) zq_101 zo_101 hc rfl rfl rfl ?_
        refine zv_p (k := 2) (f' := (7, [(3, .int (p2 + (-1 : Int32))), (0, .ref p0), (1, .long p1)], [])) zq_101 zo_101 (by with_unfolding_all rfl) ?_
        refine zv_pick (lv' := [(0, .ref p0), (1, .long p1), (3, .int (p2 + (-1 : Int32)))]) [0, 1, 3] rfl rfl ?_
        exact ih _ _ _ _ _ _ hf
      · refine zv_brF (off := 10) (tt := 31) (r := []) zq_101 zo_101 hc rfl rfl rfl ?_
        refine zv_p (k := 1) (f' := (25, [(0, .ref p0), (1, .long p1), (3, .int p2)], [.ref p0])) zq_101 zo_101 (by with_unfolding_all rfl) ?_
        replace hf := zf_be hf
        obtain ⟨v5, hv, hf⟩ := hf
        refine zv_gf zq_101 zo_101 rfl rfl rfl (zf_Ae hv) ?_
        refine zv_p (k := 1) (f' := (29, [(0, .ref p0), (1, .long p1), (3, .int p2)], [.int p2, .ref v5])) zq_101 zo_101 (by with_unfolding_all rfl) ?_
        replace hf := zf_be hf
        obtain ⟨v6, hv, hf⟩ := hf
        refine zv_ldI zq_101 zo_101 rfl hv ?_
        cases hf
        exact zv_rn zq_101 zo_101 rfl rfl
set_option maxHeartbeats 1000000 in
def f_Sheet_lastOf (p0 : Nat) (p1 : Int64) (h : zx_H) : Option (Int32 × zx_H) :=
  zf_b (zf_I 10 4 p0 h) fun v1 =>
  f_Sheet_lastOf_7 zF p0 p1 (v1 - (1 : Int32)) h
set_option maxHeartbeats 4000000 in
set_option maxRecDepth 400000 in
theorem t_f_Sheet_lastOf {sc : (Nat × (Nat → Int32)) × Bool} {d : Nat} (p0 : Nat) (p1 : Int64) (h : zx_H) (r : Int32) (h' : zx_H) (hf : f_Sheet_lastOf p0 p1 h = some (r, h')) : zx_T sc (d + 1) 101 (0, [(0, .ref p0), (1, .long p1)], []) h (zf_oI r) h' := by
  unfold f_Sheet_lastOf at hf
  refine zv_p (k := 1) (f' := (1, [(0, .ref p0), (1, .long p1)], [.ref p0])) zq_101 zo_101 (by with_unfolding_all rfl) ?_
  replace hf := zf_be hf
  obtain ⟨v1, hv, hf⟩ := hf
  refine zv_gf zq_101 zo_101 rfl rfl rfl (zf_Ie hv) ?_
  refine zv_p (k := 3) (f' := (7, [(3, .int (v1 - (1 : Int32))), (0, .ref p0), (1, .long p1)], [])) zq_101 zo_101 (by with_unfolding_all rfl) ?_
  refine zv_pick (lv' := [(0, .ref p0), (1, .long p1), (3, .int (v1 - (1 : Int32)))]) [0, 1, 3] rfl rfl ?_
  exact t_f_Sheet_lastOf_7 zF _ _ _ _ _ _ hf
/-! ColumnVault.groupAt (II)J -/
noncomputable def zI_95 : zd_T := [[(0, .aload_n 0, 1), (1, .iload_n 1, 1), (2, .invokevirtual 272, 3), (5, .iload_n 2, 1), (6, .tableswitch 92 0 3 #[30, 39, 52, 72], 30)], [(36, .aload_n 0, 1), (37, .getfield 42, 3), (40, .iload_n 1, 1), (41, .invokevirtual 275, 3), (44, .lreturn, 1), (45, .aload_n 0, 1), (46, .getfield 42, 3), (49, .iload_n 1, 1), (50, .invokevirtual 279, 3), (53, .invokestatic 137, 3), (56, .i2l, 1), (57, .lreturn, 1), (58, .aload_n 0, 1), (59, .getfield 42, 3), (62, .getfield 282, 3)], [(65, .aload_n 0, 1), (66, .getfield 42, 3), (69, .iload_n 1, 1), (70, .invokevirtual 279, 3), (73, .invokevirtual 286, 3), (76, .i2l, 1), (77, .lreturn, 1), (78, .aload_n 0, 1), (79, .getfield 42, 3), (82, .getfield 282, 3), (85, .aload_n 0, 1), (86, .getfield 42, 3), (89, .iload_n 1, 1), (90, .invokevirtual 279, 3), (93, .invokevirtual 289, 3)], [(96, .i2l, 1), (97, .lreturn, 1), (98, .new 57, 3), (101, .dup, 1), (102, .ldc_w 292, 3), (105, .invokespecial 61, 3), (108, .athrow, 1)]]
theorem zo_95 : zd_of 95 = some zI_95 := rfl
set_option maxRecDepth 100000 in
theorem zq_95 : zt_m[95]? = some (⟨"ColumnVault", "groupAt", "(II)J"⟩, prog_1_method_29_code, 3, some (.long), [], 12, 2, 0, 0, 0, 0) := rfl
set_option maxHeartbeats 1000000 in
def f_ColumnVault_groupAt (p0 : Nat) (p1 : Int32) (p2 : Int32) (h : zx_H) : Option ((Int64 ⊕ Nat) × zx_H) :=
  zf_b (zf_is 12 p0 h) fun _ =>
  zf_b3 (f_ColumnVault_requireGroup p0 p1 h) fun _ h2 =>
  if p2 = (0 : Int32) then
    zf_b (zf_A 12 4 p0 h2) fun v4 =>
    zf_b (zf_is 5 v4 h2) fun _ =>
    zf_b2 (f_Groups_valueAt v4 p1 h2) fun v5 h6 =>
    some (.inl v5, h6)
  else if p2 = (1 : Int32) then
    zf_b (zf_A 12 4 p0 h2) fun v7 =>
    zf_b (zf_is 5 v7 h2) fun _ =>
    zf_b2 (f_Groups_rowsIn v7 p1 h2) fun v8 h9 =>
    zf_b2 (f_Long_bitCount v8 h9) fun v10 h11 =>
    some (.inl ((v10).toInt64), h11)
  else if p2 = (2 : Int32) then
    zf_b (zf_A 12 4 p0 h2) fun v12 =>
    zf_b (zf_A 5 0 v12 h2) fun v13 =>
    zf_b (zf_A 12 4 p0 h2) fun v14 =>
    zf_b (zf_is 5 v14 h2) fun _ =>
    zf_b2 (f_Groups_rowsIn v14 p1 h2) fun v15 h16 =>
    zf_b (zf_is 10 v13 h16) fun _ =>
    zf_b2 (f_Sheet_firstOf v13 v15 h16) fun v17 h18 =>
    some (.inl ((v17).toInt64), h18)
  else if p2 = (3 : Int32) then
    zf_b (zf_A 12 4 p0 h2) fun v19 =>
    zf_b (zf_A 5 0 v19 h2) fun v20 =>
    zf_b (zf_A 12 4 p0 h2) fun v21 =>
    zf_b (zf_is 5 v21 h2) fun _ =>
    zf_b2 (f_Groups_rowsIn v21 p1 h2) fun v22 h23 =>
    zf_b (zf_is 10 v20 h23) fun _ =>
    zf_b2 (f_Sheet_lastOf v20 v22 h23) fun v24 h25 =>
    some (.inl ((v24).toInt64), h25)
  else
    if h2.length < zx_lim then some (.inr 14, h2 ++ [.inr (14, [])]) else none
set_option maxHeartbeats 4000000 in
set_option maxRecDepth 400000 in
theorem t_f_ColumnVault_groupAt {sc : (Nat × (Nat → Int32)) × Bool} {d : Nat} (p0 : Nat) (p1 : Int32) (p2 : Int32) (h : zx_H) (r : (Int64 ⊕ Nat)) (h' : zx_H) (hf : f_ColumnVault_groupAt p0 p1 p2 h = some (r, h')) : zx_T sc (d + 3) 95 (0, [(0, .ref p0), (1, .int p1), (2, .int p2)], []) h (zf_oJx r) h' := by
  unfold f_ColumnVault_groupAt at hf
  refine zv_p (k := 2) (f' := (2, [(0, .ref p0), (1, .int p1), (2, .int p2)], [.int p1, .ref p0])) zq_95 zo_95 (by with_unfolding_all rfl) ?_
  replace hf := zf_be hf
  obtain ⟨_, ho, hf⟩ := hf
  replace hf := zf_b3e hf
  obtain ⟨v1, h2, hv, hf⟩ | ⟨E3, h2, hv, hf⟩ := hf
  rotate_left
  · cases hf; exact zv_cx zq_95 zo_95 rfl rfl rfl rfl rfl (zv_cv rfl rfl rfl (zf_ise ho) rfl) (t_f_ColumnVault_requireGroup _ _ _ _ _ hv) rfl
  refine zv_c zq_95 zo_95 rfl rfl rfl rfl rfl (zv_cv rfl rfl rfl (zf_ise ho) rfl) (t_f_ColumnVault_requireGroup _ _ _ _ _ hv) ?_
  refine zv_p (k := 1) (f' := (6, [(0, .ref p0), (1, .int p1), (2, .int p2)], [.int p2])) zq_95 zo_95 (by with_unfolding_all rfl) ?_
  replace hf := zf_ite hf
  obtain ⟨hc, hf⟩ | ⟨hs0, hf⟩ := hf
  · refine zv_sw (f' := (36, [(0, .ref p0), (1, .int p1), (2, .int p2)], [])) zq_95 zo_95 rfl hc rfl ?_
    refine zv_p (k := 1) (f' := (37, [(0, .ref p0), (1, .int p1), (2, .int p2)], [.ref p0])) zq_95 zo_95 (by with_unfolding_all rfl) ?_
    replace hf := zf_be hf
    obtain ⟨v4, hv, hf⟩ := hf
    refine zv_gf zq_95 zo_95 rfl rfl rfl (zf_Ae hv) ?_
    refine zv_p (k := 1) (f' := (41, [(0, .ref p0), (1, .int p1), (2, .int p2)], [.int p1, .ref v4])) zq_95 zo_95 (by with_unfolding_all rfl) ?_
    replace hf := zf_be hf
    obtain ⟨_, ho, hf⟩ := hf
    replace hf := zf_b2e hf
    obtain ⟨v5, h6, hv, hf⟩ := hf
    refine zv_c zq_95 zo_95 rfl rfl rfl rfl rfl (zv_cv rfl rfl rfl (zf_ise ho) rfl) (t_f_Groups_valueAt _ _ _ _ _ hv) ?_
    cases hf
    exact zv_r zq_95 zo_95 rfl rfl rfl rfl rfl
  replace hf := zf_ite hf
  obtain ⟨hc, hf⟩ | ⟨hs1, hf⟩ := hf
  · refine zv_sw (f' := (45, [(0, .ref p0), (1, .int p1), (2, .int p2)], [])) zq_95 zo_95 rfl hc rfl ?_
    refine zv_p (k := 1) (f' := (46, [(0, .ref p0), (1, .int p1), (2, .int p2)], [.ref p0])) zq_95 zo_95 (by with_unfolding_all rfl) ?_
    replace hf := zf_be hf
    obtain ⟨v7, hv, hf⟩ := hf
    refine zv_gf zq_95 zo_95 rfl rfl rfl (zf_Ae hv) ?_
    refine zv_p (k := 1) (f' := (50, [(0, .ref p0), (1, .int p1), (2, .int p2)], [.int p1, .ref v7])) zq_95 zo_95 (by with_unfolding_all rfl) ?_
    replace hf := zf_be hf
    obtain ⟨_, ho, hf⟩ := hf
    replace hf := zf_b2e hf
    obtain ⟨v8, h9, hv, hf⟩ := hf
    refine zv_c zq_95 zo_95 rfl rfl rfl rfl rfl (zv_cv rfl rfl rfl (zf_ise ho) rfl) (t_f_Groups_rowsIn _ _ _ _ _ hv) ?_
    replace hf := zf_b2e hf
    obtain ⟨v10, h11, hv, hf⟩ := hf
    refine zv_c zq_95 zo_95 rfl rfl rfl rfl rfl rfl (t_f_Long_bitCount _ _ _ _ hv) ?_
    refine zv_p (k := 1) (f' := (57, [(0, .ref p0), (1, .int p1), (2, .int p2)], [.long (v10).toInt64])) zq_95 zo_95 (by with_unfolding_all rfl) ?_
    cases hf
    exact zv_r zq_95 zo_95 rfl rfl rfl rfl rfl
  replace hf := zf_ite hf
  obtain ⟨hc, hf⟩ | ⟨hs2, hf⟩ := hf
  · refine zv_sw (f' := (58, [(0, .ref p0), (1, .int p1), (2, .int p2)], [])) zq_95 zo_95 rfl hc rfl ?_
    refine zv_p (k := 1) (f' := (59, [(0, .ref p0), (1, .int p1), (2, .int p2)], [.ref p0])) zq_95 zo_95 (by with_unfolding_all rfl) ?_
    replace hf := zf_be hf
    obtain ⟨v12, hv, hf⟩ := hf
    refine zv_gf zq_95 zo_95 rfl rfl rfl (zf_Ae hv) ?_
    replace hf := zf_be hf
    obtain ⟨v13, hv, hf⟩ := hf
    refine zv_gf zq_95 zo_95 rfl rfl rfl (zf_Ae hv) ?_
    refine zv_p (k := 1) (f' := (66, [(0, .ref p0), (1, .int p1), (2, .int p2)], [.ref p0, .ref v13])) zq_95 zo_95 (by with_unfolding_all rfl) ?_
    replace hf := zf_be hf
    obtain ⟨v14, hv, hf⟩ := hf
    refine zv_gf zq_95 zo_95 rfl rfl rfl (zf_Ae hv) ?_
    refine zv_p (k := 1) (f' := (70, [(0, .ref p0), (1, .int p1), (2, .int p2)], [.int p1, .ref v14, .ref v13])) zq_95 zo_95 (by with_unfolding_all rfl) ?_
    replace hf := zf_be hf
    obtain ⟨_, ho, hf⟩ := hf
    replace hf := zf_b2e hf
    obtain ⟨v15, h16, hv, hf⟩ := hf
    refine zv_c zq_95 zo_95 rfl rfl rfl rfl rfl (zv_cv rfl rfl rfl (zf_ise ho) rfl) (t_f_Groups_rowsIn _ _ _ _ _ hv) ?_
    replace hf := zf_be hf
    obtain ⟨_, ho, hf⟩ := hf
    replace hf := zf_b2e hf
    obtain ⟨v17, h18, hv, hf⟩ := hf
    refine zv_c zq_95 zo_95 rfl rfl rfl rfl rfl (zv_cv rfl rfl rfl (zf_ise ho) rfl) (t_f_Sheet_firstOf _ _ _ _ _ hv) ?_
    refine zv_p (k := 1) (f' := (77, [(0, .ref p0), (1, .int p1), (2, .int p2)], [.long (v17).toInt64])) zq_95 zo_95 (by with_unfolding_all rfl) ?_
    cases hf
    exact zv_r zq_95 zo_95 rfl rfl rfl rfl rfl
  replace hf := zf_ite hf
  obtain ⟨hc, hf⟩ | ⟨hs3, hf⟩ := hf
  · refine zv_sw (f' := (78, [(0, .ref p0), (1, .int p1), (2, .int p2)], [])) zq_95 zo_95 rfl hc rfl ?_
    refine zv_p (k := 1) (f' := (79, [(0, .ref p0), (1, .int p1), (2, .int p2)], [.ref p0])) zq_95 zo_95 (by with_unfolding_all rfl) ?_
    replace hf := zf_be hf
    obtain ⟨v19, hv, hf⟩ := hf
    refine zv_gf zq_95 zo_95 rfl rfl rfl (zf_Ae hv) ?_
    replace hf := zf_be hf
    obtain ⟨v20, hv, hf⟩ := hf
    refine zv_gf zq_95 zo_95 rfl rfl rfl (zf_Ae hv) ?_
    refine zv_p (k := 1) (f' := (86, [(0, .ref p0), (1, .int p1), (2, .int p2)], [.ref p0, .ref v20])) zq_95 zo_95 (by with_unfolding_all rfl) ?_
    replace hf := zf_be hf
    obtain ⟨v21, hv, hf⟩ := hf
    refine zv_gf zq_95 zo_95 rfl rfl rfl (zf_Ae hv) ?_
    refine zv_p (k := 1) (f' := (90, [(0, .ref p0), (1, .int p1), (2, .int p2)], [.int p1, .ref v21, .ref v20])) zq_95 zo_95 (by with_unfolding_all rfl) ?_
    replace hf := zf_be hf
    obtain ⟨_, ho, hf⟩ := hf
    replace hf := zf_b2e hf
    obtain ⟨v22, h23, hv, hf⟩ := hf
    refine zv_c zq_95 zo_95 rfl rfl rfl rfl rfl (zv_cv rfl rfl rfl (zf_ise ho) rfl) (t_f_Groups_rowsIn _ _ _ _ _ hv) ?_
    replace hf := zf_be hf
    obtain ⟨_, ho, hf⟩ := hf
    replace hf := zf_b2e hf
    obtain ⟨v24, h25, hv, hf⟩ := hf
    refine zv_c zq_95 zo_95 rfl rfl rfl rfl rfl (zv_cv rfl rfl rfl (zf_ise ho) rfl) (t_f_Sheet_lastOf _ _ _ _ _ hv) ?_
    refine zv_p (k := 1) (f' := (97, [(0, .ref p0), (1, .int p1), (2, .int p2)], [.long (v24).toInt64])) zq_95 zo_95 (by with_unfolding_all rfl) ?_
    cases hf
    exact zv_r zq_95 zo_95 rfl rfl rfl rfl rfl
  refine zv_tsd (tt := 98) zq_95 zo_95 rfl (by have e0 := zi_ne (k := 0) rfl hs0; have e1 := zi_ne (k := 1) rfl hs1; have e2 := zi_ne (k := 2) rfl hs2; have e3 := zi_ne (k := 3) rfl hs3; omega) rfl ?_
  replace hf := zf_ite hf
  obtain ⟨hc, hf⟩ | ⟨hc, hf⟩ := hf
  · cases hf; exact zv_tw zq_95 zo_95 rfl rfl rfl rfl rfl rfl rfl rfl rfl hc
  · cases hf
/-! ColumnVault$Sheet.knownRows (I)J -/
noncomputable def zI_104 : zd_T := [[(0, .aload_n 0, 1), (1, .iload_n 1, 1), (2, .ldc2_w 90, 3), (5, .ldc2_w 92, 3), (8, .invokevirtual 94, 3), (11, .lreturn, 1)]]
theorem zo_104 : zd_of 104 = some zI_104 := rfl
set_option maxRecDepth 100000 in
theorem zq_104 : zt_m[104]? = some (⟨"ColumnVault$Sheet", "knownRows", "(I)J"⟩, prog_10_method_23_code, 2, some (.long), [], 10, 1, 0, 0, 0, 0) := rfl
set_option maxHeartbeats 1000000 in
def f_Sheet_knownRows (p0 : Nat) (p1 : Int32) (h : zx_H) : Option (Int64 × zx_H) :=
  zf_b (zf_is 10 p0 h) fun _ =>
  zf_b2 (f_Sheet_rowsFromTo p0 p1 (-8999999999 : Int64) (9223372036854775807 : Int64) h) fun v1 h2 =>
  some (v1, h2)
set_option maxHeartbeats 4000000 in
set_option maxRecDepth 400000 in
theorem t_f_Sheet_knownRows {sc : (Nat × (Nat → Int32)) × Bool} {d : Nat} (p0 : Nat) (p1 : Int32) (h : zx_H) (r : Int64) (h' : zx_H) (hf : f_Sheet_knownRows p0 p1 h = some (r, h')) : zx_T sc (d + 2) 104 (0, [(0, .ref p0), (1, .int p1)], []) h (zf_oJ r) h' := by
  unfold f_Sheet_knownRows at hf
  refine zv_p (k := 2) (f' := (2, [(0, .ref p0), (1, .int p1)], [.int p1, .ref p0])) zq_104 zo_104 (by with_unfolding_all rfl) ?_
  refine zv_lng zq_104 zo_104 rfl rfl ?_
  refine zv_lng zq_104 zo_104 rfl rfl ?_
  replace hf := zf_be hf
  obtain ⟨_, ho, hf⟩ := hf
  replace hf := zf_b2e hf
  obtain ⟨v1, h2, hv, hf⟩ := hf
  refine zv_c zq_104 zo_104 rfl rfl rfl rfl rfl (zv_cv rfl rfl rfl (zf_ise ho) rfl) (t_f_Sheet_rowsFromTo _ _ _ _ _ _ _ hv) ?_
  cases hf
  exact zv_r zq_104 zo_104 rfl rfl rfl rfl rfl
/-! ColumnVault$Sheet.sumOf (IJ)J -/
noncomputable def zI_105 : zd_T := [[(0, .lconst 0, 1), (1, .lstore 4, 2), (3, .iconst 0, 1), (4, .istore 6, 2), (6, .iload 6, 2), (8, .aload_n 0, 1), (9, .getfield 26, 3), (12, .if_icmp .ge 43, 3), (15, .aload_n 0, 1), (16, .iload_n 1, 1), (17, .iload 6, 2), (19, .invokevirtual 52, 3), (22, .lstore 7, 2), (24, .lload 7, 2), (26, .ldc2_w 47, 3), (29, .lcmp, 1), (30, .ifCond .eq 19, 3)], [(33, .lload_n 2, 1), (34, .iload 6, 2), (36, .invokestatic 86, 3), (39, .ifCond .eq 10, 3), (42, .lload 4, 2), (44, .lload 7, 2), (46, .ladd, 1), (47, .lstore 4, 2), (49, .iinc 6 1, 3), (52, .goto (-46), 3), (55, .lload 4, 2), (57, .lreturn, 1)]]
theorem zo_105 : zd_of 105 = some zI_105 := rfl
set_option maxRecDepth 100000 in
theorem zq_105 : zt_m[105]? = some (⟨"ColumnVault$Sheet", "sumOf", "(IJ)J"⟩, prog_10_method_27_code, 9, some (.long), [], 10, 2, 0, 0, 0, 0) := rfl
set_option maxHeartbeats 1000000 in
def f_Sheet_sumOf_6 : Nat → Nat → Int32 → Int64 → Int64 → Int32 → zx_H → Option (Int64 × zx_H)
  | 0, _, _, _, _, _, _ => none
  | n + 1, p0, p1, p2, p3, p4, h =>
    zf_b (zf_I 10 4 p0 h) fun v1 =>
    if v1 ≤ p4 then
      some (p3, h)
    else
      zf_b (zf_is 10 p0 h) fun _ =>
      zf_b2 (f_Sheet_keyAt p0 p1 p4 h) fun v2 h3 =>
      if v2 = (-9000000000 : Int64) then
        (f_Sheet_sumOf_6 n) p0 p1 p2 p3 (p4 + (1 : Int32)) h3
      else
        zf_b2 (f_ColumnVault_holdsRow p2 p4 h3) fun v4 h5 =>
        if v4 = 0 then
          (f_Sheet_sumOf_6 n) p0 p1 p2 p3 (p4 + (1 : Int32)) h5
        else
          (f_Sheet_sumOf_6 n) p0 p1 p2 (p3 + v2) (p4 + (1 : Int32)) h5
set_option maxHeartbeats 4000000 in
set_option maxRecDepth 400000 in
theorem t_f_Sheet_sumOf_6 {sc : (Nat × (Nat → Int32)) × Bool} {d : Nat} : ∀ (n : Nat) (p0 : Nat) (p1 : Int32) (p2 : Int64) (p3 : Int64) (p4 : Int32) (h : zx_H) (r : Int64) (h' : zx_H), f_Sheet_sumOf_6 n p0 p1 p2 p3 p4 h = some (r, h') → zx_T sc (d + 1) 105 (6, [(0, .ref p0), (1, .int p1), (2, .long p2), (4, .long p3), (6, .int p4)], []) h (zf_oJ r) h' := by
  intro n
  induction n with
  | zero => intro p0 p1 p2 p3 p4 h r h' hf; cases hf
  | succ n ih =>
    intro p0 p1 p2 p3 p4 h r h' hf
    unfold f_Sheet_sumOf_6 at hf
    refine zv_p (k := 2) (f' := (9, [(0, .ref p0), (1, .int p1), (2, .long p2), (4, .long p3), (6, .int p4)], [.ref p0, .int p4])) zq_105 zo_105 (by with_unfolding_all rfl) ?_
    replace hf := zf_be hf
    obtain ⟨v1, hv, hf⟩ := hf
    refine zv_gf zq_105 zo_105 rfl rfl rfl (zf_Ie hv) ?_
    replace hf := zf_ite hf
    obtain ⟨hc, hf⟩ | ⟨hc, hf⟩ := hf
    · refine zv_brT (off := 43) (tt := 55) (r := []) zq_105 zo_105 hc rfl rfl rfl ?_
      refine zv_p (k := 1) (f' := (57, [(0, .ref p0), (1, .int p1), (2, .long p2), (4, .long p3), (6, .int p4)], [.long p3])) zq_105 zo_105 (by with_unfolding_all rfl) ?_
      cases hf
      exact zv_r zq_105 zo_105 rfl rfl rfl rfl rfl
    · refine zv_brF (off := 43) (tt := 55) (r := []) zq_105 zo_105 hc rfl rfl rfl ?_
      refine zv_p (k := 3) (f' := (19, [(0, .ref p0), (1, .int p1), (2, .long p2), (4, .long p3), (6, .int p4)], [.int p4, .int p1, .ref p0])) zq_105 zo_105 (by with_unfolding_all rfl) ?_
      replace hf := zf_be hf
      obtain ⟨_, ho, hf⟩ := hf
      replace hf := zf_b2e hf
      obtain ⟨v2, h3, hv, hf⟩ := hf
      refine zv_c zq_105 zo_105 rfl rfl rfl rfl rfl (zv_cv rfl rfl rfl (zf_ise ho) rfl) (t_f_Sheet_keyAt _ _ _ _ _ _ hv) ?_
      refine zv_p (k := 2) (f' := (26, [(7, .long v2), (0, .ref p0), (1, .int p1), (2, .long p2), (4, .long p3), (6, .int p4)], [.long v2])) zq_105 zo_105 (by with_unfolding_all rfl) ?_
      refine zv_lng zq_105 zo_105 rfl rfl ?_
      refine zv_p (k := 1) (f' := (30, [(7, .long v2), (0, .ref p0), (1, .int p1), (2, .long p2), (4, .long p3), (6, .int p4)], [.int (lg_cmp v2 (-9000000000 : Int64))])) zq_105 zo_105 (by with_unfolding_all rfl) ?_
      replace hf := zf_ite hf
      obtain ⟨hc, hf⟩ | ⟨hc, hf⟩ := hf
      · refine zv_brT (off := 19) (tt := 49) (r := []) zq_105 zo_105 (zl_eq.mpr hc) rfl rfl rfl ?_
        refine zv_p (k := 2) (f' := (6, [(6, .int (p4 + (1 : Int32))), (7, .long v2), (0, .ref p0), (1, .int p1), (2, .long p2), (4, .long p3)], [])) zq_105 zo_105 (by with_unfolding_all rfl) ?_
        refine zv_pick (lv' := [(0, .ref p0), (1, .int p1), (2, .long p2), (4, .long p3), (6, .int (p4 + (1 : Int32)))]) [0, 1, 2, 4, 6] rfl rfl ?_
        exact ih _ _ _ _ _ _ _ _ hf
      · refine zv_brF (off := 19) (tt := 49) (r := []) zq_105 zo_105 (mt zl_eq.mp hc) rfl rfl rfl ?_
        refine zv_p (k := 2) (f' := (36, [(7, .long v2), (0, .ref p0), (1, .int p1), (2, .long p2), (4, .long p3), (6, .int p4)], [.int p4, .long p2])) zq_105 zo_105 (by with_unfolding_all rfl) ?_
        replace hf := zf_b2e hf
        obtain ⟨v4, h5, hv, hf⟩ := hf
        refine zv_c zq_105 zo_105 rfl rfl rfl rfl rfl rfl (t_f_ColumnVault_holdsRow _ _ _ _ _ hv) ?_
        replace hf := zf_ite hf
        obtain ⟨hc, hf⟩ | ⟨hc, hf⟩ := hf
        · refine zv_brT (off := 10) (tt := 49) (r := []) zq_105 zo_105 hc rfl rfl rfl ?_
          refine zv_p (k := 2) (f' := (6, [(6, .int (p4 + (1 : Int32))), (7, .long v2), (0, .ref p0), (1, .int p1), (2, .long p2), (4, .long p3)], [])) zq_105 zo_105 (by with_unfolding_all rfl) ?_
          refine zv_pick (lv' := [(0, .ref p0), (1, .int p1), (2, .long p2), (4, .long p3), (6, .int (p4 + (1 : Int32)))]) [0, 1, 2, 4, 6] rfl rfl ?_
          exact ih _ _ _ _ _ _ _ _ hf
        · refine zv_brF (off := 10) (tt := 49) (r := []) zq_105 zo_105 hc rfl rfl rfl ?_
          refine zv_p (k := 6) (f' := (6, [(6, .int (p4 + (1 : Int32))), (4, .long (p3 + v2)), (7, .long v2), (0, .ref p0), (1, .int p1), (2, .long p2)], [])) zq_105 zo_105 (by with_unfolding_all rfl) ?_
          refine zv_pick (lv' := [(0, .ref p0), (1, .int p1), (2, .long p2), (4, .long (p3 + v2)), (6, .int (p4 + (1 : Int32)))]) [0, 1, 2, 4, 6] rfl rfl ?_
          exact ih _ _ _ _ _ _ _ _ hf
set_option maxHeartbeats 1000000 in
def f_Sheet_sumOf (p0 : Nat) (p1 : Int32) (p2 : Int64) (h : zx_H) : Option (Int64 × zx_H) :=
  f_Sheet_sumOf_6 zF p0 p1 p2 (0 : Int64) (0 : Int32) h
set_option maxHeartbeats 4000000 in
set_option maxRecDepth 400000 in
theorem t_f_Sheet_sumOf {sc : (Nat × (Nat → Int32)) × Bool} {d : Nat} (p0 : Nat) (p1 : Int32) (p2 : Int64) (h : zx_H) (r : Int64) (h' : zx_H) (hf : f_Sheet_sumOf p0 p1 p2 h = some (r, h')) : zx_T sc (d + 1) 105 (0, [(0, .ref p0), (1, .int p1), (2, .long p2)], []) h (zf_oJ r) h' := by
  unfold f_Sheet_sumOf at hf
  refine zv_p (k := 4) (f' := (6, [(6, .int (0 : Int32)), (4, .long (0 : Int64)), (0, .ref p0), (1, .int p1), (2, .long p2)], [])) zq_105 zo_105 (by with_unfolding_all rfl) ?_
  refine zv_pick (lv' := [(0, .ref p0), (1, .int p1), (2, .long p2), (4, .long (0 : Int64)), (6, .int (0 : Int32))]) [0, 1, 2, 4, 6] rfl rfl ?_
  exact t_f_Sheet_sumOf_6 zF _ _ _ _ _ _ _ _ hf
/-! ColumnVault$Sheet.risingRows (IJ)arr I -/
noncomputable def zI_106 : zd_T := [[(0, .lload_n 2, 1), (1, .aload_n 0, 1), (2, .iload_n 1, 1), (3, .invokevirtual 98, 3), (6, .land, 1), (7, .lstore 4, 2), (9, .lload 4, 2), (11, .invokestatic 63, 3), (14, .newarray .int, 2), (16, .astore 6, 2), (18, .iconst 0, 1), (19, .istore 7, 2), (21, .iconst 0, 1), (22, .istore 8, 2), (24, .iload 8, 2), (26, .aload_n 0, 1), (27, .getfield 26, 3), (30, .if_icmp .ge 91, 3)], [(33, .iload 7, 2), (35, .aload 6, 2), (37, .arraylength, 1), (38, .if_icmp .ge 83, 3), (41, .lload 4, 2), (43, .iload 8, 2), (45, .invokestatic 86, 3), (48, .ifCond .eq 67, 3), (51, .aload_n 0, 1), (52, .iload_n 1, 1), (53, .iload 8, 2), (55, .invokevirtual 52, 3), (58, .lstore 9, 2), (60, .iload 7, 2), (62, .istore 11, 2)], [(64, .iload 11, 2), (66, .ifCond .le 39, 3), (69, .aload_n 0, 1), (70, .iload_n 1, 1), (71, .aload 6, 2), (73, .iload 11, 2), (75, .iconst 1, 1), (76, .isub, 1), (77, .iaload, 1), (78, .invokevirtual 52, 3), (81, .lload 9, 2), (83, .lcmp, 1), (84, .ifCond .le 21, 3), (87, .aload 6, 2), (89, .iload 11, 2), (91, .aload 6, 2), (93, .iload 11, 2), (95, .iconst 1, 1)], [(96, .isub, 1), (97, .iaload, 1), (98, .iastore, 1), (99, .iinc 11 (-1), 3), (102, .goto (-38), 3), (105, .aload 6, 2), (107, .iload 11, 2), (109, .iload 8, 2), (111, .iastore, 1), (112, .iinc 7 1, 3), (115, .iinc 8 1, 3), (118, .goto (-94), 3), (121, .aload 6, 2), (123, .areturn, 1)]]
theorem zo_106 : zd_of 106 = some zI_106 := rfl
set_option maxRecDepth 100000 in
theorem zq_106 : zt_m[106]? = some (⟨"ColumnVault$Sheet", "risingRows", "(IJ)[I"⟩, prog_10_method_28_code, 12, some (.array (.int)), [], 10, 2, 0, 0, 0, 0) := rfl
