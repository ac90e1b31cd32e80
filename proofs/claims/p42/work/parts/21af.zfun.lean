set_option maxHeartbeats 1000000 in
def f_ColumnVault_requireRow (p0 : Nat) (p1 : Int32) (h : zx_H) : Option ((Unit ⊕ Nat) × zx_H) :=
  zf_b (zf_is 10 p0 h) fun _ =>
  zf_b2 (f_Sheet_hasRow p0 p1 h) fun v1 h2 =>
  if ¬ v1 = 0 then
    some (.inl (), h2)
  else
    if h2.length < zx_lim then some (.inr 13, h2 ++ [.inr (13, [])]) else none
set_option maxHeartbeats 4000000 in
set_option maxRecDepth 400000 in
theorem t_f_ColumnVault_requireRow {sc : (Nat × (Nat → Int32)) × Bool} {d : Nat} (p0 : Nat) (p1 : Int32) (h : zx_H) (r : (Unit ⊕ Nat)) (h' : zx_H) (hf : f_ColumnVault_requireRow p0 p1 h = some (r, h')) : zx_T sc (d + 1) 38 (0, [(0, .ref p0), (1, .int p1)], []) h (zf_oVx r) h' := by
  unfold f_ColumnVault_requireRow at hf
  refine zv_p (k := 2) (f' := (2, [(0, .ref p0), (1, .int p1)], [.int p1, .ref p0])) zq_38 zo_38 (by with_unfolding_all rfl) ?_
  replace hf := zf_be hf
  obtain ⟨_, ho, hf⟩ := hf
  replace hf := zf_b2e hf
  obtain ⟨v1, h2, hv, hf⟩ := hf
  refine zv_c zq_38 zo_38 rfl rfl rfl rfl rfl (zv_cv rfl rfl rfl (zf_ise ho) rfl) (t_f_Sheet_hasRow _ _ _ _ _ hv) ?_
  replace hf := zf_ite hf
  obtain ⟨hc, hf⟩ | ⟨hc, hf⟩ := hf
  · refine zv_brT (off := 14) (tt := 19) (r := []) zq_38 zo_38 hc rfl rfl rfl ?_
    cases hf
    exact zv_r zq_38 zo_38 rfl rfl rfl rfl rfl
  · refine zv_brF (off := 14) (tt := 19) (r := []) zq_38 zo_38 hc rfl rfl rfl ?_
    replace hf := zf_ite hf
    obtain ⟨hc, hf⟩ | ⟨hc, hf⟩ := hf
    · cases hf; exact zv_tw zq_38 zo_38 rfl rfl rfl rfl rfl rfl rfl rfl rfl hc
    · cases hf
/-! ColumnVault.isLetter (I)Z -/
noncomputable def zI_41 : zd_T := [[(0, .iload_n 0, 1), (1, .bipush 97, 2), (3, .if_icmp .lt 13, 3), (6, .iload_n 0, 1), (7, .bipush 122, 2), (9, .if_icmp .gt 7, 3), (12, .iconst 1, 1), (13, .goto 4, 3), (16, .iconst 0, 1), (17, .ireturn, 1)]]
theorem zo_41 : zd_of 41 = some zI_41 := rfl
set_option maxRecDepth 100000 in
theorem zq_41 : zt_m[41]? = some (⟨"ColumnVault", "isLetter", "(I)Z"⟩, prog_1_method_55_code, 1, some (.boolean), [], 12, 1, 0, 1, 99999, 0) := rfl
set_option maxHeartbeats 1000000 in
def f_ColumnVault_isLetter (p0 : Int32) (h : zx_H) : Option (Int32 × zx_H) :=
  if p0 < (97 : Int32) then
    some ((0 : Int32), h)
  else
    if (122 : Int32) < p0 then
      some ((0 : Int32), h)
    else
      some ((1 : Int32), h)
set_option maxHeartbeats 4000000 in
set_option maxRecDepth 400000 in
theorem t_f_ColumnVault_isLetter {sc : (Nat × (Nat → Int32)) × Bool} {d : Nat} (p0 : Int32) (h : zx_H) (r : Int32) (h' : zx_H) (hf : f_ColumnVault_isLetter p0 h = some (r, h')) : zx_T sc d 41 (0, [(0, .int p0)], []) h (zf_oI r) h' := by
  unfold f_ColumnVault_isLetter at hf
  refine zv_p (k := 2) (f' := (3, [(0, .int p0)], [.int (97 : Int32), .int p0])) zq_41 zo_41 (by with_unfolding_all rfl) ?_
  replace hf := zf_ite hf
  obtain ⟨hc, hf⟩ | ⟨hc, hf⟩ := hf
  · refine zv_brT (off := 13) (tt := 16) (r := []) zq_41 zo_41 hc rfl rfl rfl ?_
    refine zv_p (k := 1) (f' := (17, [(0, .int p0)], [.int (0 : Int32)])) zq_41 zo_41 (by with_unfolding_all rfl) ?_
    cases hf
    exact zv_rn zq_41 zo_41 rfl rfl
  · refine zv_brF (off := 13) (tt := 16) (r := []) zq_41 zo_41 hc rfl rfl rfl ?_
    refine zv_p (k := 2) (f' := (9, [(0, .int p0)], [.int (122 : Int32), .int p0])) zq_41 zo_41 (by with_unfolding_all rfl) ?_
    replace hf := zf_ite hf
    obtain ⟨hc, hf⟩ | ⟨hc, hf⟩ := hf
    · refine zv_brT (off := 7) (tt := 16) (r := []) zq_41 zo_41 hc rfl rfl rfl ?_
      refine zv_p (k := 1) (f' := (17, [(0, .int p0)], [.int (0 : Int32)])) zq_41 zo_41 (by with_unfolding_all rfl) ?_
      cases hf
      exact zv_rn zq_41 zo_41 rfl rfl
    · refine zv_brF (off := 7) (tt := 16) (r := []) zq_41 zo_41 hc rfl rfl rfl ?_
      refine zv_p (k := 2) (f' := (17, [(0, .int p0)], [.int (1 : Int32)])) zq_41 zo_41 (by with_unfolding_all rfl) ?_
      cases hf
      exact zv_rn zq_41 zo_41 rfl rfl
/-! ColumnVault.isWord (J)Z -/
noncomputable def zI_40 : zd_T := [[(0, .lload_n 0, 1), (1, .lconst 0, 1), (2, .lcmp, 1), (3, .ifCond .le 12, 3), (6, .lload_n 0, 1), (7, .bipush 56, 2), (9, .lushr, 1), (10, .lconst 0, 1), (11, .lcmp, 1), (12, .ifCond .eq 5, 3), (15, .iconst 0, 1), (16, .ireturn, 1), (17, .iconst 0, 1), (18, .istore_n 2, 1), (19, .iload_n 2, 1), (20, .bipush 7, 2), (22, .if_icmp .ge 39, 3), (25, .lload_n 0, 1), (26, .bipush 8, 2), (28, .iload_n 2, 1), (29, .imul, 1), (30, .lushr, 1), (31, .lconst 0, 1)], [(32, .lcmp, 1), (33, .ifCond .eq 28, 3), (36, .lload_n 0, 1), (37, .bipush 8, 2), (39, .iload_n 2, 1), (40, .imul, 1), (41, .lushr, 1), (42, .ldc2_w 393, 3), (45, .land, 1), (46, .l2i, 1), (47, .invokestatic 395, 3), (50, .ifCond .ne 5, 3), (53, .iconst 0, 1), (54, .ireturn, 1), (55, .iinc 2 1, 3), (58, .goto (-39), 3), (61, .iconst 1, 1), (62, .ireturn, 1)]]
theorem zo_40 : zd_of 40 = some zI_40 := rfl
set_option maxRecDepth 100000 in
theorem zq_40 : zt_m[40]? = some (⟨"ColumnVault", "isWord", "(J)Z"⟩, prog_1_method_54_code, 3, some (.boolean), [], 12, 1, 0, 1, 99999, 0) := rfl
set_option maxHeartbeats 1000000 in
def f_ColumnVault_isWord_19 : Nat → Int64 → Int32 → zx_H → Option (Int32 × zx_H)
  | 0, _, _, _ => none
  | n + 1, p0, p1, h =>
    if (7 : Int32) ≤ p1 then
      some ((1 : Int32), h)
    else
      if (((p0).toUInt64 >>> ((((8 : Int32) * p1)).toInt64.toUInt64 &&& Int64.toUInt64 63)).toInt64) = (0 : Int64) then
        some ((1 : Int32), h)
      else
        zf_b2 (f_ColumnVault_isLetter (((((p0).toUInt64 >>> ((((8 : Int32) * p1)).toInt64.toUInt64 &&& Int64.toUInt64 63)).toInt64 &&& (255 : Int64))).toInt32) h) fun v1 h2 =>
        if ¬ v1 = 0 then
          (f_ColumnVault_isWord_19 n) p0 (p1 + (1 : Int32)) h2
        else
          some ((0 : Int32), h2)
set_option maxHeartbeats 4000000 in
set_option maxRecDepth 400000 in
theorem t_f_ColumnVault_isWord_19 {sc : (Nat × (Nat → Int32)) × Bool} {d : Nat} : ∀ (n : Nat) (p0 : Int64) (p1 : Int32) (h : zx_H) (r : Int32) (h' : zx_H), f_ColumnVault_isWord_19 n p0 p1 h = some (r, h') → zx_T sc (d + 1) 40 (19, [(0, .long p0), (2, .int p1)], []) h (zf_oI r) h' := by
  intro n
  induction n with
  | zero => intro p0 p1 h r h' hf; cases hf
  | succ n ih =>
    intro p0 p1 h r h' hf
    unfold f_ColumnVault_isWord_19 at hf
    refine zv_p (k := 2) (f' := (22, [(0, .long p0), (2, .int p1)], [.int (7 : Int32), .int p1])) zq_40 zo_40 (by with_unfolding_all rfl) ?_
    replace hf := zf_ite hf
    obtain ⟨hc, hf⟩ | ⟨hc, hf⟩ := hf
    · refine zv_brT (off := 39) (tt := 61) (r := []) zq_40 zo_40 hc rfl rfl rfl ?_
      refine zv_p (k := 1) (f' := (62, [(0, .long p0), (2, .int p1)], [.int (1 : Int32)])) zq_40 zo_40 (by with_unfolding_all rfl) ?_
      cases hf
      exact zv_rn zq_40 zo_40 rfl rfl
    · refine zv_brF (off := 39) (tt := 61) (r := []) zq_40 zo_40 hc rfl rfl rfl ?_
      refine zv_p (k := 7) (f' := (33, [(0, .long p0), (2, .int p1)], [.int (lg_cmp (((p0).toUInt64 >>> ((((8 : Int32) * p1)).toInt64.toUInt64 &&& Int64.toUInt64 63)).toInt64) (0 : Int64))])) zq_40 zo_40 (by with_unfolding_all rfl) ?_
      replace hf := zf_ite hf
      obtain ⟨hc, hf⟩ | ⟨hc, hf⟩ := hf
      · refine zv_brT (off := 28) (tt := 61) (r := []) zq_40 zo_40 (zl_eq.mpr hc) rfl rfl rfl ?_
        refine zv_p (k := 1) (f' := (62, [(0, .long p0), (2, .int p1)], [.int (1 : Int32)])) zq_40 zo_40 (by with_unfolding_all rfl) ?_
        cases hf
        exact zv_rn zq_40 zo_40 rfl rfl
      · refine zv_brF (off := 28) (tt := 61) (r := []) zq_40 zo_40 (mt zl_eq.mp hc) rfl rfl rfl ?_
        refine zv_p (k := 5) (f' := (42, [(0, .long p0), (2, .int p1)], [.long ((p0).toUInt64 >>> ((((8 : Int32) * p1)).toInt64.toUInt64 &&& Int64.toUInt64 63)).toInt64])) zq_40 zo_40 (by with_unfolding_all rfl) ?_
        refine zv_lng zq_40 zo_40 rfl rfl ?_
        refine zv_p (k := 2) (f' := (47, [(0, .long p0), (2, .int p1)], [.int ((((p0).toUInt64 >>> ((((8 : Int32) * p1)).toInt64.toUInt64 &&& Int64.toUInt64 63)).toInt64 &&& (255 : Int64))).toInt32])) zq_40 zo_40 (by with_unfolding_all rfl) ?_
        replace hf := zf_b2e hf
        obtain ⟨v1, h2, hv, hf⟩ := hf
        refine zv_c zq_40 zo_40 rfl rfl rfl rfl rfl rfl (t_f_ColumnVault_isLetter _ _ _ _ hv) ?_
        replace hf := zf_ite hf
        obtain ⟨hc, hf⟩ | ⟨hc, hf⟩ := hf
        · refine zv_brT (off := 5) (tt := 55) (r := []) zq_40 zo_40 hc rfl rfl rfl ?_
          refine zv_p (k := 2) (f' := (19, [(2, .int (p1 + (1 : Int32))), (0, .long p0)], [])) zq_40 zo_40 (by with_unfolding_all rfl) ?_
          refine zv_pick (lv' := [(0, .long p0), (2, .int (p1 + (1 : Int32)))]) [0, 2] rfl rfl ?_
          exact ih _ _ _ _ _ hf
        · refine zv_brF (off := 5) (tt := 55) (r := []) zq_40 zo_40 hc rfl rfl rfl ?_
          refine zv_p (k := 1) (f' := (54, [(0, .long p0), (2, .int p1)], [.int (0 : Int32)])) zq_40 zo_40 (by with_unfolding_all rfl) ?_
          cases hf
          exact zv_rn zq_40 zo_40 rfl rfl
set_option maxHeartbeats 1000000 in
def f_ColumnVault_isWord (p0 : Int64) (h : zx_H) : Option (Int32 × zx_H) :=
  if p0 ≤ (0 : Int64) then
    some ((0 : Int32), h)
  else
    if (((p0).toUInt64 >>> (((56 : Int32)).toInt64.toUInt64 &&& Int64.toUInt64 63)).toInt64) = (0 : Int64) then
      f_ColumnVault_isWord_19 zF p0 (0 : Int32) h
    else
      some ((0 : Int32), h)
set_option maxHeartbeats 4000000 in
set_option maxRecDepth 400000 in
theorem t_f_ColumnVault_isWord {sc : (Nat × (Nat → Int32)) × Bool} {d : Nat} (p0 : Int64) (h : zx_H) (r : Int32) (h' : zx_H) (hf : f_ColumnVault_isWord p0 h = some (r, h')) : zx_T sc (d + 1) 40 (0, [(0, .long p0)], []) h (zf_oI r) h' := by
  unfold f_ColumnVault_isWord at hf
  refine zv_p (k := 3) (f' := (3, [(0, .long p0)], [.int (lg_cmp p0 (0 : Int64))])) zq_40 zo_40 (by with_unfolding_all rfl) ?_
  replace hf := zf_ite hf
  obtain ⟨hc, hf⟩ | ⟨hc, hf⟩ := hf
  · refine zv_brT (off := 12) (tt := 15) (r := []) zq_40 zo_40 (zl_le.mpr hc) rfl rfl rfl ?_
    refine zv_p (k := 1) (f' := (16, [(0, .long p0)], [.int (0 : Int32)])) zq_40 zo_40 (by with_unfolding_all rfl) ?_
    cases hf
    exact zv_rn zq_40 zo_40 rfl rfl
  · refine zv_brF (off := 12) (tt := 15) (r := []) zq_40 zo_40 (mt zl_le.mp hc) rfl rfl rfl ?_
    refine zv_p (k := 5) (f' := (12, [(0, .long p0)], [.int (lg_cmp (((p0).toUInt64 >>> (((56 : Int32)).toInt64.toUInt64 &&& Int64.toUInt64 63)).toInt64) (0 : Int64))])) zq_40 zo_40 (by with_unfolding_all rfl) ?_
    replace hf := zf_ite hf
    obtain ⟨hc, hf⟩ | ⟨hc, hf⟩ := hf
    · refine zv_brT (off := 5) (tt := 17) (r := []) zq_40 zo_40 (zl_eq.mpr hc) rfl rfl rfl ?_
      refine zv_p (k := 2) (f' := (19, [(2, .int (0 : Int32)), (0, .long p0)], [])) zq_40 zo_40 (by with_unfolding_all rfl) ?_
      refine zv_pick (lv' := [(0, .long p0), (2, .int (0 : Int32))]) [0, 2] rfl rfl ?_
      exact t_f_ColumnVault_isWord_19 zF _ _ _ _ _ hf
    · refine zv_brF (off := 5) (tt := 17) (r := []) zq_40 zo_40 (mt zl_eq.mp hc) rfl rfl rfl ?_
      refine zv_p (k := 1) (f' := (16, [(0, .long p0)], [.int (0 : Int32)])) zq_40 zo_40 (by with_unfolding_all rfl) ?_
      cases hf
      exact zv_rn zq_40 zo_40 rfl rfl
/-! ColumnVault.requireValue (IJ)V -/
noncomputable def zI_39 : zd_T := [[(0, .iload_n 0, 1), (1, .iconst 1, 1), (2, .if_icmp .ne 13, 3), (5, .lload_n 1, 1), (6, .invokestatic 380, 3), (9, .ifCond .ne 24, 3), (12, .goto 10, 3), (15, .lload_n 1, 1), (16, .invokestatic 98, 3), (19, .ifCond .ne 14, 3), (22, .new 57, 3), (25, .dup, 1), (26, .ldc_w 383, 3), (29, .invokespecial 61, 3)], [(32, .athrow, 1), (33, .return_, 1)]]
theorem zo_39 : zd_of 39 = some zI_39 := rfl
set_option maxRecDepth 100000 in
theorem zq_39 : zt_m[39]? = some (⟨"ColumnVault", "requireValue", "(IJ)V"⟩, prog_1_method_50_code, 3, none, [], 12, 2, 0, 1, 99999, 0) := rfl
set_option maxHeartbeats 1000000 in
def f_ColumnVault_requireValue (p0 : Int32) (p1 : Int64) (h : zx_H) : Option ((Unit ⊕ Nat) × zx_H) :=
  if ¬ p0 = (1 : Int32) then
    zf_b2 (f_ColumnVault_isNumber p1 h) fun v1 h2 =>
    if ¬ v1 = 0 then
      some (.inl (), h2)
    else
      if h2.length < zx_lim then some (.inr 14, h2 ++ [.inr (14, [])]) else none
  else
    zf_b2 (f_ColumnVault_isWord p1 h) fun v3 h4 =>
    if ¬ v3 = 0 then
      some (.inl (), h4)
    else
      if h4.length < zx_lim then some (.inr 14, h4 ++ [.inr (14, [])]) else none
set_option maxHeartbeats 4000000 in
set_option maxRecDepth 400000 in
theorem t_f_ColumnVault_requireValue {sc : (Nat × (Nat → Int32)) × Bool} {d : Nat} (p0 : Int32) (p1 : Int64) (h : zx_H) (r : (Unit ⊕ Nat)) (h' : zx_H) (hf : f_ColumnVault_requireValue p0 p1 h = some (r, h')) : zx_T sc (d + 2) 39 (0, [(0, .int p0), (1, .long p1)], []) h (zf_oVx r) h' := by
  unfold f_ColumnVault_requireValue at hf
  refine zv_p (k := 2) (f' := (2, [(0, .int p0), (1, .long p1)], [.int (1 : Int32), .int p0])) zq_39 zo_39 (by with_unfolding_all rfl) ?_
  replace hf := zf_ite hf
  obtain ⟨hc, hf⟩ | ⟨hc, hf⟩ := hf
  · refine zv_brT (off := 13) (tt := 15) (r := []) zq_39 zo_39 hc rfl rfl rfl ?_
    refine zv_p (k := 1) (f' := (16, [(0, .int p0), (1, .long p1)], [.long p1])) zq_39 zo_39 (by with_unfolding_all rfl) ?_
    replace hf := zf_b2e hf
    obtain ⟨v1, h2, hv, hf⟩ := hf
    refine zv_c zq_39 zo_39 rfl rfl rfl rfl rfl rfl (t_f_ColumnVault_isNumber _ _ _ _ hv) ?_
    replace hf := zf_ite hf
    obtain ⟨hc, hf⟩ | ⟨hc, hf⟩ := hf
    · refine zv_brT (off := 14) (tt := 33) (r := []) zq_39 zo_39 hc rfl rfl rfl ?_
      cases hf
      exact zv_r zq_39 zo_39 rfl rfl rfl rfl rfl
    · refine zv_brF (off := 14) (tt := 33) (r := []) zq_39 zo_39 hc rfl rfl rfl ?_
      replace hf := zf_ite hf
      obtain ⟨hc, hf⟩ | ⟨hc, hf⟩ := hf
      · cases hf; exact zv_tw zq_39 zo_39 rfl rfl rfl rfl rfl rfl rfl rfl rfl hc
      · cases hf
  · refine zv_brF (off := 13) (tt := 15) (r := []) zq_39 zo_39 hc rfl rfl rfl ?_
    refine zv_p (k := 1) (f' := (6, [(0, .int p0), (1, .long p1)], [.long p1])) zq_39 zo_39 (by with_unfolding_all rfl) ?_
    replace hf := zf_b2e hf
    obtain ⟨v3, h4, hv, hf⟩ := hf
    refine zv_c zq_39 zo_39 rfl rfl rfl rfl rfl rfl (t_f_ColumnVault_isWord _ _ _ _ hv) ?_
    replace hf := zf_ite hf
    obtain ⟨hc, hf⟩ | ⟨hc, hf⟩ := hf
    · refine zv_brT (off := 24) (tt := 33) (r := []) zq_39 zo_39 hc rfl rfl rfl ?_
      cases hf
      exact zv_r zq_39 zo_39 rfl rfl rfl rfl rfl
    · refine zv_brF (off := 24) (tt := 33) (r := []) zq_39 zo_39 hc rfl rfl rfl ?_
      refine zv_p (k := 1) (f' := (22, [(0, .int p0), (1, .long p1)], [])) zq_39 zo_39 (by with_unfolding_all rfl) ?_
      replace hf := zf_ite hf
      obtain ⟨hc, hf⟩ | ⟨hc, hf⟩ := hf
      · cases hf; exact zv_tw zq_39 zo_39 rfl rfl rfl rfl rfl rfl rfl rfl rfl hc
      · cases hf
/-! ColumnVault.keyOf (IJ)J -/
noncomputable def zI_42 : zd_T := [[(0, .iload_n 0, 1), (1, .iconst 1, 1), (2, .if_icmp .ne 11, 3), (5, .lload_n 1, 1), (6, .ldc2_w 112, 3), (9, .lcmp, 1), (10, .ifCond .ne 5, 3), (13, .lload_n 1, 1), (14, .lreturn, 1), (15, .lload_n 1, 1), (16, .lstore_n 3, 1), (17, .iconst 1, 1), (18, .istore 5, 2), (20, .iload 5, 2), (22, .bipush 7, 2), (24, .if_icmp .ge 23, 3), (27, .lload_n 3, 1), (28, .bipush 48, 2), (30, .lushr, 1), (31, .lconst 0, 1)], [(32, .lcmp, 1), (33, .ifCond .ne 14, 3), (36, .lload_n 3, 1), (37, .bipush 8, 2), (39, .lshl, 1), (40, .lstore_n 3, 1), (41, .iinc 5 1, 3), (44, .goto (-24), 3), (47, .lload_n 3, 1), (48, .lreturn, 1)]]
theorem zo_42 : zd_of 42 = some zI_42 := rfl
set_option maxRecDepth 100000 in
theorem zq_42 : zt_m[42]? = some (⟨"ColumnVault", "keyOf", "(IJ)J"⟩, prog_1_method_57_code, 6, some (.long), [], 12, 2, 0, 1, 99999, 0) := rfl
set_option maxHeartbeats 1000000 in
def f_ColumnVault_keyOf_20 : Nat → Int64 → Int32 → zx_H → Option (Int64 × zx_H)
  | 0, _, _, _ => none
  | n + 1, p0, p1, h =>
    if (7 : Int32) ≤ p1 then
      some (p0, h)
    else
      if ¬ (((p0).toUInt64 >>> (((48 : Int32)).toInt64.toUInt64 &&& Int64.toUInt64 63)).toInt64) = (0 : Int64) then
        some (p0, h)
      else
        (f_ColumnVault_keyOf_20 n) (p0 <<< (((8 : Int32)).toInt64 &&& 63)) (p1 + (1 : Int32)) h
set_option maxHeartbeats 4000000 in
set_option maxRecDepth 400000 in
theorem t_f_ColumnVault_keyOf_20 {sc : (Nat × (Nat → Int32)) × Bool} {d : Nat} : ∀ (n : Nat) (p0 : Int64) (p1 : Int32) (h : zx_H) (r : Int64) (h' : zx_H), f_ColumnVault_keyOf_20 n p0 p1 h = some (r, h') → zx_T sc d 42 (20, [(3, .long p0), (5, .int p1)], []) h (zf_oJ r) h' := by
  intro n
  induction n with
  | zero => intro p0 p1 h r h' hf; cases hf
  | succ n ih =>
    intro p0 p1 h r h' hf
    unfold f_ColumnVault_keyOf_20 at hf
    refine zv_p (k := 2) (f' := (24, [(3, .long p0), (5, .int p1)], [.int (7 : Int32), .int p1])) zq_42 zo_42 (by with_unfolding_all rfl) ?_
    replace hf := zf_ite hf
    obtain ⟨hc, hf⟩ | ⟨hc, hf⟩ := hf
    · refine zv_brT (off := 23) (tt := 47) (r := []) zq_42 zo_42 hc rfl rfl rfl ?_
      refine zv_p (k := 1) (f' := (48, [(3, .long p0), (5, .int p1)], [.long p0])) zq_42 zo_42 (by with_unfolding_all rfl) ?_
      cases hf
      exact zv_r zq_42 zo_42 rfl rfl rfl rfl rfl
    · refine zv_brF (off := 23) (tt := 47) (r := []) zq_42 zo_42 hc rfl rfl rfl ?_
      refine zv_p (k := 5) (f' := (33, [(3, .long p0), (5, .int p1)], [.int (lg_cmp (((p0).toUInt64 >>> (((48 : Int32)).toInt64.toUInt64 &&& Int64.toUInt64 63)).toInt64) (0 : Int64))])) zq_42 zo_42 (by with_unfolding_all rfl) ?_
      replace hf := zf_ite hf
      obtain ⟨hc, hf⟩ | ⟨hc, hf⟩ := hf
      · refine zv_brT (off := 14) (tt := 47) (r := []) zq_42 zo_42 (zl_ne.mpr hc) rfl rfl rfl ?_
        refine zv_p (k := 1) (f' := (48, [(3, .long p0), (5, .int p1)], [.long p0])) zq_42 zo_42 (by with_unfolding_all rfl) ?_
        cases hf
        exact zv_r zq_42 zo_42 rfl rfl rfl rfl rfl
      · refine zv_brF (off := 14) (tt := 47) (r := []) zq_42 zo_42 (mt zl_ne.mp hc) rfl rfl rfl ?_
        refine zv_p (k := 6) (f' := (20, [(5, .int (p1 + (1 : Int32))), (3, .long (p0 <<< (((8 : Int32)).toInt64 &&& 63)))], [])) zq_42 zo_42 (by with_unfolding_all rfl) ?_
        refine zv_pick (lv' := [(3, .long (p0 <<< (((8 : Int32)).toInt64 &&& 63))), (5, .int (p1 + (1 : Int32)))]) [3, 5] rfl rfl ?_
        exact ih _ _ _ _ _ hf
set_option maxHeartbeats 1000000 in
def f_ColumnVault_keyOf (p0 : Int32) (p1 : Int64) (h : zx_H) : Option (Int64 × zx_H) :=
  if ¬ p0 = (1 : Int32) then
    some (p1, h)
  else
    if ¬ p1 = (-9000000000 : Int64) then
      f_ColumnVault_keyOf_20 zF p1 (1 : Int32) h
    else
      some (p1, h)
set_option maxHeartbeats 4000000 in
set_option maxRecDepth 400000 in
theorem t_f_ColumnVault_keyOf {sc : (Nat × (Nat → Int32)) × Bool} {d : Nat} (p0 : Int32) (p1 : Int64) (h : zx_H) (r : Int64) (h' : zx_H) (hf : f_ColumnVault_keyOf p0 p1 h = some (r, h')) : zx_T sc d 42 (0, [(0, .int p0), (1, .long p1)], []) h (zf_oJ r) h' := by
  unfold f_ColumnVault_keyOf at hf
  refine zv_p (k := 2) (f' := (2, [(0, .int p0), (1, .long p1)], [.int (1 : Int32), .int p0])) zq_42 zo_42 (by with_unfolding_all rfl) ?_
  replace hf := zf_ite hf
  obtain ⟨hc, hf⟩ | ⟨hc, hf⟩ := hf
  · refine zv_brT (off := 11) (tt := 13) (r := []) zq_42 zo_42 hc rfl rfl rfl ?_
    refine zv_p (k := 1) (f' := (14, [(0, .int p0), (1, .long p1)], [.long p1])) zq_42 zo_42 (by with_unfolding_all rfl) ?_
    cases hf
    exact zv_r zq_42 zo_42 rfl rfl rfl rfl rfl
  · refine zv_brF (off := 11) (tt := 13) (r := []) zq_42 zo_42 hc rfl rfl rfl ?_
    refine zv_p (k := 1) (f' := (6, [(0, .int p0), (1, .long p1)], [.long p1])) zq_42 zo_42 (by with_unfolding_all rfl) ?_
    refine zv_lng zq_42 zo_42 rfl rfl ?_
    refine zv_p (k := 1) (f' := (10, [(0, .int p0), (1, .long p1)], [.int (lg_cmp p1 (-9000000000 : Int64))])) zq_42 zo_42 (by with_unfolding_all rfl) ?_
    replace hf := zf_ite hf
    obtain ⟨hc, hf⟩ | ⟨hc, hf⟩ := hf
    · refine zv_brT (off := 5) (tt := 15) (r := []) zq_42 zo_42 (zl_ne.mpr hc) rfl rfl rfl ?_
      refine zv_p (k := 4) (f' := (20, [(5, .int (1 : Int32)), (3, .long p1), (0, .int p0), (1, .long p1)], [])) zq_42 zo_42 (by with_unfolding_all rfl) ?_
      refine zv_pick (lv' := [(3, .long p1), (5, .int (1 : Int32))]) [3, 5] rfl rfl ?_
      exact t_f_ColumnVault_keyOf_20 zF _ _ _ _ _ hf
    · refine zv_brF (off := 5) (tt := 15) (r := []) zq_42 zo_42 (mt zl_ne.mp hc) rfl rfl rfl ?_
      refine zv_p (k := 1) (f' := (14, [(0, .int p0), (1, .long p1)], [.long p1])) zq_42 zo_42 (by with_unfolding_all rfl) ?_
      cases hf
      exact zv_r zq_42 zo_42 rfl rfl rfl rfl rfl
/-! ColumnVault.set (IIIJ)Z -/
noncomputable def zI_37 : zd_T := [[(0, .aload_n 0, 1), (1, .iload_n 1, 1), (2, .iload_n 3, 1), (3, .invokevirtual 91, 3), (6, .astore 6, 2), (8, .aload 6, 2), (10, .iload_n 2, 1), (11, .invokestatic 108, 3), (14, .aload 6, 2), (16, .iload_n 3, 1), (17, .invokevirtual 95, 3), (20, .istore 7, 2), (22, .lload 4, 2), (24, .ldc2_w 112, 3), (27, .lcmp, 1), (28, .ifCond .eq 10, 3), (31, .iload 7, 2)], [(33, .lload 4, 2), (35, .invokestatic 114, 3), (38, .aload 6, 2), (40, .iload_n 3, 1), (41, .iload_n 2, 1), (42, .invokevirtual 118, 3), (45, .lstore 8, 2), (47, .iload 7, 2), (49, .lload 4, 2), (51, .invokestatic 122, 3), (54, .lstore 10, 2), (56, .aload_n 0, 1), (57, .iload_n 1, 1), (58, .invokevirtual 75, 3), (61, .iload_n 3, 1), (62, .iload_n 2, 1), (63, .lload 10, 2)], [(65, .invokevirtual 104, 3), (68, .lload 10, 2), (70, .lload 8, 2), (72, .lcmp, 1), (73, .ifCond .eq 7, 3), (76, .iconst 1, 1), (77, .goto 4, 3), (80, .iconst 0, 1), (81, .ireturn, 1)]]
theorem zo_37 : zd_of 37 = some zI_37 := rfl
set_option maxRecDepth 100000 in
theorem zq_37 : zt_m[37]? = some (⟨"ColumnVault", "set", "(IIIJ)Z"⟩, prog_1_method_5_code, 12, some (.boolean), [], 12, 4, 0, 0, 0, 0) := rfl
set_option maxHeartbeats 1000000 in
def f_ColumnVault_set_38 (p0 : Nat) (p1 : Int32) (p2 : Int32) (p3 : Int32) (p4 : Int64) (p5 : Nat) (p6 : Int32) (h : zx_H) : Option ((Int32 ⊕ Nat) × zx_H) :=
  zf_b (zf_is 10 p5 h) fun _ =>
  zf_b2 (f_Sheet_keyAt p5 p3 p2 h) fun v1 h2 =>
  zf_b2 (f_ColumnVault_keyOf p6 p4 h2) fun v3 h4 =>
  zf_b (zf_is 12 p0 h4) fun _ =>
  zf_b3 (f_ColumnVault_nextSheetOf p0 p1 h4) fun v5 h6 =>
  zf_b (zf_is 10 v5 h6) fun _ =>
  zf_b2 (f_Sheet_putKey v5 p3 p2 v3 h6) fun _ h9 =>
  if v3 = v1 then
    some (.inl (0 : Int32), h9)
  else
    some (.inl (1 : Int32), h9)
set_option maxHeartbeats 4000000 in
set_option maxRecDepth 400000 in
theorem t_f_ColumnVault_set_38 {sc : (Nat × (Nat → Int32)) × Bool} {d : Nat} (p0 : Nat) (p1 : Int32) (p2 : Int32) (p3 : Int32) (p4 : Int64) (p5 : Nat) (p6 : Int32) (h : zx_H) (r : (Int32 ⊕ Nat)) (h' : zx_H) (hf : f_ColumnVault_set_38 p0 p1 p2 p3 p4 p5 p6 h = some (r, h')) : zx_T sc (d + 3) 37 (38, [(0, .ref p0), (1, .int p1), (2, .int p2), (3, .int p3), (4, .long p4), (6, .ref p5), (7, .int p6)], []) h (zf_oIx r) h' := by
  unfold f_ColumnVault_set_38 at hf
  refine zv_p (k := 3) (f' := (42, [(0, .ref p0), (1, .int p1), (2, .int p2), (3, .int p3), (4, .long p4), (6, .ref p5), (7, .int p6)], [.int p2, .int p3, .ref p5])) zq_37 zo_37 (by with_unfolding_all rfl) ?_
  replace hf := zf_be hf
  obtain ⟨_, ho, hf⟩ := hf
  replace hf := zf_b2e hf
  obtain ⟨v1, h2, hv, hf⟩ := hf
  refine zv_c zq_37 zo_37 rfl rfl rfl rfl rfl (zv_cv rfl rfl rfl (zf_ise ho) rfl) (t_f_Sheet_keyAt _ _ _ _ _ _ hv) ?_
  refine zv_p (k := 3) (f' := (51, [(8, .long v1), (0, .ref p0), (1, .int p1), (2, .int p2), (3, .int p3), (4, .long p4), (6, .ref p5), (7, .int p6)], [.long p4, .int p6])) zq_37 zo_37 (by with_unfolding_all rfl) ?_
  replace hf := zf_b2e hf
  obtain ⟨v3, h4, hv, hf⟩ := hf
  refine zv_c zq_37 zo_37 rfl rfl rfl rfl rfl rfl (t_f_ColumnVault_keyOf _ _ _ _ _ hv) ?_
  refine zv_p (k := 3) (f' := (58, [(10, .long v3), (8, .long v1), (0, .ref p0), (1, .int p1), (2, .int p2), (3, .int p3), (4, .long p4), (6, .ref p5), (7, .int p6)], [.int p1, .ref p0])) zq_37 zo_37 (by with_unfolding_all rfl) ?_
  replace hf := zf_be hf
  obtain ⟨_, ho, hf⟩ := hf
  replace hf := zf_b3e hf
  obtain ⟨v5, h6, hv, hf⟩ | ⟨E7, h6, hv, hf⟩ := hf
  rotate_left
  · cases hf; exact zv_cx zq_37 zo_37 rfl rfl rfl rfl rfl (zv_cv rfl rfl rfl (zf_ise ho) rfl) (t_f_ColumnVault_nextSheetOf _ _ _ _ _ hv) rfl
  refine zv_c zq_37 zo_37 rfl rfl rfl rfl rfl (zv_cv rfl rfl rfl (zf_ise ho) rfl) (t_f_ColumnVault_nextSheetOf _ _ _ _ _ hv) ?_
  refine zv_p (k := 3) (f' := (65, [(10, .long v3), (8, .long v1), (0, .ref p0), (1, .int p1), (2, .int p2), (3, .int p3), (4, .long p4), (6, .ref p5), (7, .int p6)], [.long v3, .int p2, .int p3, .ref v5])) zq_37 zo_37 (by with_unfolding_all rfl) ?_
  replace hf := zf_be hf
  obtain ⟨_, ho, hf⟩ := hf
  replace hf := zf_b2e hf
  obtain ⟨v8, h9, hv, hf⟩ := hf
  refine zv_c zq_37 zo_37 rfl rfl rfl rfl rfl (zv_cv rfl rfl rfl (zf_ise ho) rfl) (t_f_Sheet_putKey _ _ _ _ _ _ _ hv) ?_
  refine zv_p (k := 3) (f' := (73, [(10, .long v3), (8, .long v1), (0, .ref p0), (1, .int p1), (2, .int p2), (3, .int p3), (4, .long p4), (6, .ref p5), (7, .int p6)], [.int (lg_cmp v3 v1)])) zq_37 zo_37 (by with_unfolding_all rfl) ?_
  replace hf := zf_ite hf
  obtain ⟨hc, hf⟩ | ⟨hc, hf⟩ := hf
  · refine zv_brT (off := 7) (tt := 80) (r := []) zq_37 zo_37 (zl_eq.mpr hc) rfl rfl rfl ?_
    refine zv_p (k := 1) (f' := (81, [(10, .long v3), (8, .long v1), (0, .ref p0), (1, .int p1), (2, .int p2), (3, .int p3), (4, .long p4), (6, .ref p5), (7, .int p6)], [.int (0 : Int32)])) zq_37 zo_37 (by with_unfolding_all rfl) ?_
    cases hf
    exact zv_rn zq_37 zo_37 rfl rfl
  · refine zv_brF (off := 7) (tt := 80) (r := []) zq_37 zo_37 (mt zl_eq.mp hc) rfl rfl rfl ?_
    refine zv_p (k := 2) (f' := (81, [(10, .long v3), (8, .long v1), (0, .ref p0), (1, .int p1), (2, .int p2), (3, .int p3), (4, .long p4), (6, .ref p5), (7, .int p6)], [.int (1 : Int32)])) zq_37 zo_37 (by with_unfolding_all rfl) ?_
    cases hf
    exact zv_rn zq_37 zo_37 rfl rfl
set_option maxHeartbeats 1000000 in
def f_ColumnVault_set (p0 : Nat) (p1 : Int32) (p2 : Int32) (p3 : Int32) (p4 : Int64) (h : zx_H) : Option ((Int32 ⊕ Nat) × zx_H) :=
  zf_b (zf_is 12 p0 h) fun _ =>
  zf_b3 (f_ColumnVault_sheetWith p0 p1 p3 h) fun v1 h2 =>
  zf_b3 (f_ColumnVault_requireRow v1 p2 h2) fun _ h5 =>
  zf_b (zf_is 10 v1 h5) fun _ =>
  zf_b2 (f_Sheet_kindOf v1 p3 h5) fun v7 h8 =>
  if p4 = (-9000000000 : Int64) then
    f_ColumnVault_set_38 p0 p1 p2 p3 p4 v1 v7 h8
  else
    zf_b3 (f_ColumnVault_requireValue v7 p4 h8) fun _ h10 =>
    f_ColumnVault_set_38 p0 p1 p2 p3 p4 v1 v7 h10
set_option maxHeartbeats 4000000 in
set_option maxRecDepth 400000 in
theorem t_f_ColumnVault_set {sc : (Nat × (Nat → Int32)) × Bool} {d : Nat} (p0 : Nat) (p1 : Int32) (p2 : Int32) (p3 : Int32) (p4 : Int64) (h : zx_H) (r : (Int32 ⊕ Nat)) (h' : zx_H) (hf : f_ColumnVault_set p0 p1 p2 p3 p4 h = some (r, h')) : zx_T sc (d + 3) 37 (0, [(0, .ref p0), (1, .int p1), (2, .int p2), (3, .int p3), (4, .long p4)], []) h (zf_oIx r) h' := by
  unfold f_ColumnVault_set at hf
  refine zv_p (k := 3) (f' := (3, [(0, .ref p0), (1, .int p1), (2, .int p2), (3, .int p3), (4, .long p4)], [.int p3, .int p1, .ref p0])) zq_37 zo_37 (by with_unfolding_all rfl) ?_
  replace hf := zf_be hf
  obtain ⟨_, ho, hf⟩ := hf
  replace hf := zf_b3e hf
  obtain ⟨v1, h2, hv, hf⟩ | ⟨E3, h2, hv, hf⟩ := hf
  rotate_left
  · cases hf; exact zv_cx zq_37 zo_37 rfl rfl rfl rfl rfl (zv_cv rfl rfl rfl (zf_ise ho) rfl) (t_f_ColumnVault_sheetWith _ _ _ _ _ _ hv) rfl
  refine zv_c zq_37 zo_37 rfl rfl rfl rfl rfl (zv_cv rfl rfl rfl (zf_ise ho) rfl) (t_f_ColumnVault_sheetWith _ _ _ _ _ _ hv) ?_
  refine zv_p (k := 3) (f' := (11, [(6, .ref v1), (0, .ref p0), (1, .int p1), (2, .int p2), (3, .int p3), (4, .long p4)], [.int p2, .ref v1])) zq_37 zo_37 (by with_unfolding_all rfl) ?_
  replace hf := zf_b3e hf
  obtain ⟨v4, h5, hv, hf⟩ | ⟨E6, h5, hv, hf⟩ := hf
  rotate_left
  · cases hf; exact zv_cx zq_37 zo_37 rfl rfl rfl rfl rfl rfl (t_f_ColumnVault_requireRow _ _ _ _ _ hv) rfl
  refine zv_c zq_37 zo_37 rfl rfl rfl rfl rfl rfl (t_f_ColumnVault_requireRow _ _ _ _ _ hv) ?_
  refine zv_p (k := 2) (f' := (17, [(6, .ref v1), (0, .ref p0), (1, .int p1), (2, .int p2), (3, .int p3), (4, .long p4)], [.int p3, .ref v1])) zq_37 zo_37 (by with_unfolding_all rfl) ?_
  replace hf := zf_be hf
  obtain ⟨_, ho, hf⟩ := hf
  replace hf := zf_b2e hf
  obtain ⟨v7, h8, hv, hf⟩ := hf
  refine zv_c zq_37 zo_37 rfl rfl rfl rfl rfl (zv_cv rfl rfl rfl (zf_ise ho) rfl) (t_f_Sheet_kindOf _ _ _ _ _ hv) ?_
  refine zv_p (k := 2) (f' := (24, [(7, .int v7), (6, .ref v1), (0, .ref p0), (1, .int p1), (2, .int p2), (3, .int p3), (4, .long p4)], [.long p4])) zq_37 zo_37 (by with_unfolding_all rfl) ?_
  refine zv_lng zq_37 zo_37 rfl rfl ?_
  refine zv_p (k := 1) (f' := (28, [(7, .int v7), (6, .ref v1), (0, .ref p0), (1, .int p1), (2, .int p2), (3, .int p3), (4, .long p4)], [.int (lg_cmp p4 (-9000000000 : Int64))])) zq_37 zo_37 (by with_unfolding_all rfl) ?_
  replace hf := zf_ite hf
  obtain ⟨hc, hf⟩ | ⟨hc, hf⟩ := hf
  · refine zv_brT (off := 10) (tt := 38) (r := []) zq_37 zo_37 (zl_eq.mpr hc) rfl rfl rfl ?_
    refine zv_pick (lv' := [(0, .ref p0), (1, .int p1), (2, .int p2), (3, .int p3), (4, .long p4), (6, .ref v1), (7, .int v7)]) [0, 1, 2, 3, 4, 6, 7] rfl rfl ?_
    exact t_f_ColumnVault_set_38 _ _ _ _ _ _ _ _ _ _ hf
  · refine zv_brF (off := 10) (tt := 38) (r := []) zq_37 zo_37 (mt zl_eq.mp hc) rfl rfl rfl ?_
    refine zv_p (k := 2) (f' := (35, [(7, .int v7), (6, .ref v1), (0, .ref p0), (1, .int p1), (2, .int p2), (3, .int p3), (4, .long p4)], [.long p4, .int v7])) zq_37 zo_37 (by with_unfolding_all rfl) ?_
    replace hf := zf_b3e hf
    obtain ⟨v9, h10, hv, hf⟩ | ⟨E11, h10, hv, hf⟩ := hf
    rotate_left
    · cases hf; exact zv_cx zq_37 zo_37 rfl rfl rfl rfl rfl rfl (t_f_ColumnVault_requireValue _ _ _ _ _ hv) rfl
    refine zv_c zq_37 zo_37 rfl rfl rfl rfl rfl rfl (t_f_ColumnVault_requireValue _ _ _ _ _ hv) ?_
    refine zv_pick (lv' := [(0, .ref p0), (1, .int p1), (2, .int p2), (3, .int p3), (4, .long p4), (6, .ref v1), (7, .int v7)]) [0, 1, 2, 3, 4, 6, 7] rfl rfl ?_
    exact t_f_ColumnVault_set_38 _ _ _ _ _ _ _ _ _ _ hf
/-! ColumnVault.toldOf (IJ)J -/
noncomputable def zI_45 : zd_T := [[(0, .iload_n 0, 1), (1, .iconst 1, 1), (2, .if_icmp .ne 11, 3), (5, .lload_n 1, 1), (6, .ldc2_w 112, 3), (9, .lcmp, 1), (10, .ifCond .ne 5, 3), (13, .lload_n 1, 1), (14, .lreturn, 1), (15, .lload_n 1, 1), (16, .lstore_n 3, 1), (17, .iconst 1, 1), (18, .istore 5, 2), (20, .iload 5, 2), (22, .bipush 7, 2), (24, .if_icmp .ge 24, 3), (27, .lload_n 3, 1), (28, .ldc2_w 393, 3), (31, .land, 1)], [(32, .lconst 0, 1), (33, .lcmp, 1), (34, .ifCond .ne 14, 3), (37, .lload_n 3, 1), (38, .bipush 8, 2), (40, .lushr, 1), (41, .lstore_n 3, 1), (42, .iinc 5 1, 3), (45, .goto (-25), 3), (48, .lload_n 3, 1), (49, .lreturn, 1)]]
theorem zo_45 : zd_of 45 = some zI_45 := rfl
set_option maxRecDepth 100000 in
theorem zq_45 : zt_m[45]? = some (⟨"ColumnVault", "toldOf", "(IJ)J"⟩, prog_1_method_58_code, 6, some (.long), [], 12, 2, 0, 1, 99999, 0) := rfl
set_option maxHeartbeats 1000000 in
def f_ColumnVault_toldOf_20 : Nat → Int64 → Int32 → zx_H → Option (Int64 × zx_H)
  | 0, _, _, _ => none
  | n + 1, p0, p1, h =>
    if (7 : Int32) ≤ p1 then
      some (p0, h)
    else
      if ¬ (p0 &&& (255 : Int64)) = (0 : Int64) then
        some (p0, h)
      else
        (f_ColumnVault_toldOf_20 n) (((p0).toUInt64 >>> (((8 : Int32)).toInt64.toUInt64 &&& Int64.toUInt64 63)).toInt64) (p1 + (1 : Int32)) h
set_option maxHeartbeats 4000000 in
set_option maxRecDepth 400000 in
theorem t_f_ColumnVault_toldOf_20 {sc : (Nat × (Nat → Int32)) × Bool} {d : Nat} : ∀ (n : Nat) (p0 : Int64) (p1 : Int32) (h : zx_H) (r : Int64) (h' : zx_H), f_ColumnVault_toldOf_20 n p0 p1 h = some (r, h') → zx_T sc d 45 (20, [(3, .long p0), (5, .int p1)], []) h (zf_oJ r) h' := by
  intro n
  induction n with
  | zero => intro p0 p1 h r h' hf; cases hf
  | succ n ih =>
    intro p0 p1 h r h' hf
    unfold f_ColumnVault_toldOf_20 at hf
    refine zv_p (k := 2) (f' := (24, [(3, .long p0), (5, .int p1)], [.int (7 : Int32), .int p1])) zq_45 zo_45 (by with_unfolding_all rfl) ?_
    replace hf := zf_ite hf
    obtain ⟨hc, hf⟩ | ⟨hc, hf⟩ := hf
    · refine zv_brT (off := 24) (tt := 48) (r := []) zq_45 zo_45 hc rfl rfl rfl ?_
      refine zv_p (k := 1) (f' := (49, [(3, .long p0), (5, .int p1)], [.long p0])) zq_45 zo_45 (by with_unfolding_all rfl) ?_
      cases hf
      exact zv_r zq_45 zo_45 rfl rfl rfl rfl rfl
    · refine zv_brF (off := 24) (tt := 48) (r := []) zq_45 zo_45 hc rfl rfl rfl ?_
      refine zv_p (k := 1) (f' := (28, [(3, .long p0), (5, .int p1)], [.long p0])) zq_45 zo_45 (by with_unfolding_all rfl) ?_
      refine zv_lng zq_45 zo_45 rfl rfl ?_
      refine zv_p (k := 3) (f' := (34, [(3, .long p0), (5, .int p1)], [.int (lg_cmp (p0 &&& (255 : Int64)) (0 : Int64))])) zq_45 zo_45 (by with_unfolding_all rfl) ?_
      replace hf := zf_ite hf
      obtain ⟨hc, hf⟩ | ⟨hc, hf⟩ := hf
      · refine zv_brT (off := 14) (tt := 48) (r := []) zq_45 zo_45 (zl_ne.mpr hc) rfl rfl rfl ?_
        refine zv_p (k := 1) (f' := (49, [(3, .long p0), (5, .int p1)], [.long p0])) zq_45 zo_45 (by with_unfolding_all rfl) ?_
        cases hf
        exact zv_r zq_45 zo_45 rfl rfl rfl rfl rfl
      · refine zv_brF (off := 14) (tt := 48) (r := []) zq_45 zo_45 (mt zl_ne.mp hc) rfl rfl rfl ?_
        refine zv_p (k := 6) (f' := (20, [(5, .int (p1 + (1 : Int32))), (3, .long ((p0).toUInt64 >>> (((8 : Int32)).toInt64.toUInt64 &&& Int64.toUInt64 63)).toInt64)], [])) zq_45 zo_45 (by with_unfolding_all rfl) ?_
        refine zv_pick (lv' := [(3, .long ((p0).toUInt64 >>> (((8 : Int32)).toInt64.toUInt64 &&& Int64.toUInt64 63)).toInt64), (5, .int (p1 + (1 : Int32)))]) [3, 5] rfl rfl ?_
        exact ih _ _ _ _ _ hf
set_option maxHeartbeats 1000000 in
def f_ColumnVault_toldOf (p0 : Int32) (p1 : Int64) (h : zx_H) : Option (Int64 × zx_H) :=
  if ¬ p0 = (1 : Int32) then
    some (p1, h)
  else
    if ¬ p1 = (-9000000000 : Int64) then
      f_ColumnVault_toldOf_20 zF p1 (1 : Int32) h
    else
      some (p1, h)
set_option maxHeartbeats 4000000 in
set_option maxRecDepth 400000 in
theorem t_f_ColumnVault_toldOf {sc : (Nat × (Nat → Int32)) × Bool} {d : Nat} (p0 : Int32) (p1 : Int64) (h : zx_H) (r : Int64) (h' : zx_H) (hf : f_ColumnVault_toldOf p0 p1 h = some (r, h')) : zx_T sc d 45 (0, [(0, .int p0), (1, .long p1)], []) h (zf_oJ r) h' := by
  unfold f_ColumnVault_toldOf at hf
  refine zv_p (k := 2) (f' := (2, [(0, .int p0), (1, .long p1)], [.int (1 : Int32), .int p0])) zq_45 zo_45 (by with_unfolding_all rfl) ?_
  replace hf := zf_ite hf
  obtain ⟨hc, hf⟩ | ⟨hc, hf⟩ := hf
  · refine zv_brT (off := 11) (tt := 13) (r := []) zq_45 zo_45 hc rfl rfl rfl ?_
    refine zv_p (k := 1) (f' := (14, [(0, .int p0), (1, .long p1)], [.long p1])) zq_45 zo_45 (by with_unfolding_all rfl) ?_
    cases hf
    exact zv_r zq_45 zo_45 rfl rfl rfl rfl rfl
  · refine zv_brF (off := 11) (tt := 13) (r := []) zq_45 zo_45 hc rfl rfl rfl ?_
    refine zv_p (k := 1) (f' := (6, [(0, .int p0), (1, .long p1)], [.long p1])) zq_45 zo_45 (by with_unfolding_all rfl) ?_
    refine zv_lng zq_45 zo_45 rfl rfl ?_
    refine zv_p (k := 1) (f' := (10, [(0, .int p0), (1, .long p1)], [.int (lg_cmp p1 (-9000000000 : Int64))])) zq_45 zo_45 (by with_unfolding_all rfl) ?_
    replace hf := zf_ite hf
    obtain ⟨hc, hf⟩ | ⟨hc, hf⟩ := hf
    · refine zv_brT (off := 5) (tt := 15) (r := []) zq_45 zo_45 (zl_ne.mpr hc) rfl rfl rfl ?_
      refine zv_p (k := 4) (f' := (20, [(5, .int (1 : Int32)), (3, .long p1), (0, .int p0), (1, .long p1)], [])) zq_45 zo_45 (by with_unfolding_all rfl) ?_
      refine zv_pick (lv' := [(3, .long p1), (5, .int (1 : Int32))]) [3, 5] rfl rfl ?_
      exact t_f_ColumnVault_toldOf_20 zF _ _ _ _ _ hf
    · refine zv_brF (off := 5) (tt := 15) (r := []) zq_45 zo_45 (mt zl_ne.mp hc) rfl rfl rfl ?_
      refine zv_p (k := 1) (f' := (14, [(0, .int p0), (1, .long p1)], [.long p1])) zq_45 zo_45 (by with_unfolding_all rfl) ?_
      cases hf
      exact zv_r zq_45 zo_45 rfl rfl rfl rfl rfl
/-! ColumnVault$Sheet.valueOf (II)J -/
noncomputable def zI_44 : zd_T := [[(0, .aload_n 0, 1), (1, .iload_n 1, 1), (2, .invokevirtual 39, 3), (5, .aload_n 0, 1), (6, .iload_n 1, 1), (7, .iload_n 2, 1), (8, .invokevirtual 52, 3), (11, .invokestatic 56, 3), (14, .lreturn, 1)]]
theorem zo_44 : zd_of 44 = some zI_44 := rfl
set_option maxRecDepth 100000 in
theorem zq_44 : zt_m[44]? = some (⟨"ColumnVault$Sheet", "valueOf", "(II)J"⟩, prog_10_method_9_code, 3, some (.long), [], 10, 2, 0, 0, 0, 0) := rfl
set_option maxHeartbeats 1000000 in
def f_Sheet_valueOf (p0 : Nat) (p1 : Int32) (p2 : Int32) (h : zx_H) : Option (Int64 × zx_H) :=
  zf_b (zf_is 10 p0 h) fun _ =>
  zf_b2 (f_Sheet_kindOf p0 p1 h) fun v1 h2 =>
  zf_b (zf_is 10 p0 h2) fun _ =>
  zf_b2 (f_Sheet_keyAt p0 p1 p2 h2) fun v3 h4 =>
  zf_b2 (f_ColumnVault_toldOf v1 v3 h4) fun v5 h6 =>
  some (v5, h6)
set_option maxHeartbeats 4000000 in
set_option maxRecDepth 400000 in
theorem t_f_Sheet_valueOf {sc : (Nat × (Nat → Int32)) × Bool} {d : Nat} (p0 : Nat) (p1 : Int32) (p2 : Int32) (h : zx_H) (r : Int64) (h' : zx_H) (hf : f_Sheet_valueOf p0 p1 p2 h = some (r, h')) : zx_T sc (d + 2) 44 (0, [(0, .ref p0), (1, .int p1), (2, .int p2)], []) h (zf_oJ r) h' := by
  unfold f_Sheet_valueOf at hf
  refine zv_p (k := 2) (f' := (2, [(0, .ref p0), (1, .int p1), (2, .int p2)], [.int p1, .ref p0])) zq_44 zo_44 (by with_unfolding_all rfl) ?_
  replace hf := zf_be hf
  obtain ⟨_, ho, hf⟩ := hf
  replace hf := zf_b2e hf
  obtain ⟨v1, h2, hv, hf⟩ := hf
  refine zv_c zq_44 zo_44 rfl rfl rfl rfl rfl (zv_cv rfl rfl rfl (zf_ise ho) rfl) (t_f_Sheet_kindOf _ _ _ _ _ hv) ?_
  refine zv_p (k := 3) (f' := (8, [(0, .ref p0), (1, .int p1), (2, .int p2)], [.int p2, .int p1, .ref p0, .int v1])) zq_44 zo_44 (by with_unfolding_all rfl) ?_
  replace hf := zf_be hf
  obtain ⟨_, ho, hf⟩ := hf
  replace hf := zf_b2e hf
  obtain ⟨v3, h4, hv, hf⟩ := hf
  refine zv_c zq_44 zo_44 rfl rfl rfl rfl rfl (zv_cv rfl rfl rfl (zf_ise ho) rfl) (t_f_Sheet_keyAt _ _ _ _ _ _ hv) ?_
  replace hf := zf_b2e hf
  obtain ⟨v5, h6, hv, hf⟩ := hf
  refine zv_c zq_44 zo_44 rfl rfl rfl rfl rfl rfl (t_f_ColumnVault_toldOf _ _ _ _ _ hv) ?_
  cases hf
  exact zv_r zq_44 zo_44 rfl rfl rfl rfl rfl
/-! ColumnVault.get (III)J -/
noncomputable def zI_43 : zd_T := [[(0, .aload_n 0, 1), (1, .iload_n 1, 1), (2, .iload_n 3, 1), (3, .invokevirtual 91, 3), (6, .astore 4, 2), (8, .aload 4, 2), (10, .iload_n 2, 1), (11, .invokestatic 108, 3), (14, .aload 4, 2), (16, .iload_n 3, 1), (17, .iload_n 2, 1), (18, .invokevirtual 130, 3), (21, .lreturn, 1)]]
theorem zo_43 : zd_of 43 = some zI_43 := rfl
set_option maxRecDepth 100000 in
theorem zq_43 : zt_m[43]? = some (⟨"ColumnVault", "get", "(III)J"⟩, prog_1_method_7_code, 5, some (.long), [], 12, 3, 0, 0, 0, 0) := rfl
