set_option maxHeartbeats 1000000 in
def f_ColumnVaultLaw_digest_134 : Nat → Nat → Int32 → Int64 → Nat → Int32 → Int32 → zx_H → Option ((Int64 ⊕ Nat) × zx_H)
  | 0, _, _, _, _, _, _, _ => none
  | n + 1, p0, p1, p2, p3, p4, p5, h =>
    if p4 ≤ p5 then
      zf_b3 (f_ColumnVaultLaw_choice p0 p1 h) fun v1 h2 =>
      zf_b (zf_len v1 h2) fun v4 =>
      f_ColumnVaultLaw_digest_179 zF p2 v1 v4 (0 : Int32) h2
    else
      zf_b (zf_ldI p3 p5 h) fun v5 =>
      (f_ColumnVaultLaw_digest_134 n) p0 p1 (((31 : Int64) * p2) + (v5).toInt64) p3 p4 (p5 + (1 : Int32)) h
set_option maxHeartbeats 4000000 in
set_option maxRecDepth 400000 in
theorem t_f_ColumnVaultLaw_digest_134 {sc : (Nat × (Nat → Int32)) × Bool} {d : Nat} : ∀ (n : Nat) (p0 : Nat) (p1 : Int32) (p2 : Int64) (p3 : Nat) (p4 : Int32) (p5 : Int32) (h : zx_H) (r : (Int64 ⊕ Nat)) (h' : zx_H), f_ColumnVaultLaw_digest_134 n p0 p1 p2 p3 p4 p5 h = some (r, h') → zx_T sc (d + 6) 301 (134, [(0, .ref p0), (1, .int p1), (2, .long p2), (4, .ref p3), (5, .int p4), (6, .int p5)], []) h (zf_oJx r) h' := by
  intro n
  induction n with
  | zero => intro p0 p1 p2 p3 p4 p5 h r h' hf; cases hf
  | succ n ih =>
    intro p0 p1 p2 p3 p4 p5 h r h' hf
    unfold f_ColumnVaultLaw_digest_134 at hf
    refine zv_p (k := 2) (f' := (138, [(0, .ref p0), (1, .int p1), (2, .long p2), (4, .ref p3), (5, .int p4), (6, .int p5)], [.int p4, .int p5])) zq_301 zo_301 (by with_unfolding_all rfl) ?_
    replace hf := zf_ite hf
    obtain ⟨hc, hf⟩ | ⟨hc, hf⟩ := hf
    · refine zv_brT (off := 26) (tt := 164) (r := []) zq_301 zo_301 hc rfl rfl rfl ?_
      refine zv_p (k := 2) (f' := (166, [(0, .ref p0), (1, .int p1), (2, .long p2), (4, .ref p3), (5, .int p4), (6, .int p5)], [.int p1, .ref p0])) zq_301 zo_301 (by with_unfolding_all rfl) ?_
      replace hf := zf_b3e hf
      obtain ⟨v1, h2, hv, hf⟩ | ⟨E3, h2, hv, hf⟩ := hf
      rotate_left
      · cases hf; exact zv_cx zq_301 zo_301 rfl rfl rfl rfl rfl rfl (t_f_ColumnVaultLaw_choice _ _ _ _ _ hv) rfl
      refine zv_c zq_301 zo_301 rfl rfl rfl rfl rfl rfl (t_f_ColumnVaultLaw_choice _ _ _ _ _ hv) ?_
      refine zv_p (k := 2) (f' := (173, [(4, .ref v1), (0, .ref p0), (1, .int p1), (2, .long p2), (5, .int p4), (6, .int p5)], [.ref v1])) zq_301 zo_301 (by with_unfolding_all rfl) ?_
      replace hf := zf_be hf
      obtain ⟨v4, hv, hf⟩ := hf
      refine zv_len zq_301 zo_301 rfl hv ?_
      refine zv_p (k := 3) (f' := (179, [(6, .int (0 : Int32)), (5, .int v4), (4, .ref v1), (0, .ref p0), (1, .int p1), (2, .long p2)], [])) zq_301 zo_301 (by with_unfolding_all rfl) ?_
      refine zv_pick (lv' := [(2, .long p2), (4, .ref v1), (5, .int v4), (6, .int (0 : Int32))]) [2, 4, 5, 6] rfl rfl ?_
      exact t_f_ColumnVaultLaw_digest_179 zF _ _ _ _ _ _ _ hf
    · refine zv_brF (off := 26) (tt := 164) (r := []) zq_301 zo_301 hc rfl rfl rfl ?_
      refine zv_p (k := 2) (f' := (145, [(0, .ref p0), (1, .int p1), (2, .long p2), (4, .ref p3), (5, .int p4), (6, .int p5)], [.int p5, .ref p3])) zq_301 zo_301 (by with_unfolding_all rfl) ?_
      replace hf := zf_be hf
      obtain ⟨v5, hv, hf⟩ := hf
      refine zv_ldI zq_301 zo_301 rfl hv ?_
      refine zv_p (k := 1) (f' := (148, [(7, .int v5), (0, .ref p0), (1, .int p1), (2, .long p2), (4, .ref p3), (5, .int p4), (6, .int p5)], [])) zq_301 zo_301 (by with_unfolding_all rfl) ?_
      refine zv_lng zq_301 zo_301 rfl rfl ?_
      refine zv_p (k := 8) (f' := (134, [(6, .int (p5 + (1 : Int32))), (2, .long (((31 : Int64) * p2) + (v5).toInt64)), (7, .int v5), (0, .ref p0), (1, .int p1), (4, .ref p3), (5, .int p4)], [])) zq_301 zo_301 (by with_unfolding_all rfl) ?_
      refine zv_pick (lv' := [(0, .ref p0), (1, .int p1), (2, .long (((31 : Int64) * p2) + (v5).toInt64)), (4, .ref p3), (5, .int p4), (6, .int (p5 + (1 : Int32)))]) [0, 1, 2, 4, 5, 6] rfl rfl ?_
      exact ih _ _ _ _ _ _ _ _ _ hf
set_option maxHeartbeats 1000000 in
def f_ColumnVaultLaw_digest_58 : Nat → Nat → Int32 → Int64 → Nat → Int32 → Int32 → zx_H → Option ((Int64 ⊕ Nat) × zx_H)
  | 0, _, _, _, _, _, _, _ => none
  | n + 1, p0, p1, p2, p3, p4, p5, h =>
    if p4 ≤ p5 then
      zf_b3 (f_ColumnVaultLaw_order p0 p1 h) fun v1 h2 =>
      zf_b (zf_len v1 h2) fun v4 =>
      f_ColumnVaultLaw_digest_134 zF p0 p1 p2 v1 v4 (0 : Int32) h2
    else
      zf_b (zf_ldA p3 p5 h) fun v5 =>
      zf_b (zf_len v5 h) fun v6 =>
      f_ColumnVaultLaw_digest_84 (f_ColumnVaultLaw_digest_58 n) zF p0 p1 p2 p3 p4 p5 v5 v6 (0 : Int32) h
set_option maxHeartbeats 4000000 in
set_option maxRecDepth 400000 in
theorem t_f_ColumnVaultLaw_digest_58 {sc : (Nat × (Nat → Int32)) × Bool} {d : Nat} : ∀ (n : Nat) (p0 : Nat) (p1 : Int32) (p2 : Int64) (p3 : Nat) (p4 : Int32) (p5 : Int32) (h : zx_H) (r : (Int64 ⊕ Nat)) (h' : zx_H), f_ColumnVaultLaw_digest_58 n p0 p1 p2 p3 p4 p5 h = some (r, h') → zx_T sc (d + 6) 301 (58, [(0, .ref p0), (1, .int p1), (2, .long p2), (4, .ref p3), (5, .int p4), (6, .int p5)], []) h (zf_oJx r) h' := by
  intro n
  induction n with
  | zero => intro p0 p1 p2 p3 p4 p5 h r h' hf; cases hf
  | succ n ih =>
    intro p0 p1 p2 p3 p4 p5 h r h' hf
    unfold f_ColumnVaultLaw_digest_58 at hf
    refine zv_p (k := 2) (f' := (62, [(0, .ref p0), (1, .int p1), (2, .long p2), (4, .ref p3), (5, .int p4), (6, .int p5)], [.int p4, .int p5])) zq_301 zo_301 (by with_unfolding_all rfl) ?_
    replace hf := zf_ite hf
    obtain ⟨hc, hf⟩ | ⟨hc, hf⟩ := hf
    · refine zv_brT (off := 57) (tt := 119) (r := []) zq_301 zo_301 hc rfl rfl rfl ?_
      refine zv_p (k := 2) (f' := (121, [(0, .ref p0), (1, .int p1), (2, .long p2), (4, .ref p3), (5, .int p4), (6, .int p5)], [.int p1, .ref p0])) zq_301 zo_301 (by with_unfolding_all rfl) ?_
      replace hf := zf_b3e hf
      obtain ⟨v1, h2, hv, hf⟩ | ⟨E3, h2, hv, hf⟩ := hf
      rotate_left
      · cases hf; exact zv_cx zq_301 zo_301 rfl rfl rfl rfl rfl rfl (t_f_ColumnVaultLaw_order _ _ _ _ _ hv) rfl
      refine zv_c zq_301 zo_301 rfl rfl rfl rfl rfl rfl (t_f_ColumnVaultLaw_order _ _ _ _ _ hv) ?_
      refine zv_p (k := 2) (f' := (128, [(4, .ref v1), (0, .ref p0), (1, .int p1), (2, .long p2), (5, .int p4), (6, .int p5)], [.ref v1])) zq_301 zo_301 (by with_unfolding_all rfl) ?_
      replace hf := zf_be hf
      obtain ⟨v4, hv, hf⟩ := hf
      refine zv_len zq_301 zo_301 rfl hv ?_
      refine zv_p (k := 3) (f' := (134, [(6, .int (0 : Int32)), (5, .int v4), (4, .ref v1), (0, .ref p0), (1, .int p1), (2, .long p2)], [])) zq_301 zo_301 (by with_unfolding_all rfl) ?_
      refine zv_pick (lv' := [(0, .ref p0), (1, .int p1), (2, .long p2), (4, .ref v1), (5, .int v4), (6, .int (0 : Int32))]) [0, 1, 2, 4, 5, 6] rfl rfl ?_
      exact t_f_ColumnVaultLaw_digest_134 zF _ _ _ _ _ _ _ _ _ hf
    · refine zv_brF (off := 57) (tt := 119) (r := []) zq_301 zo_301 hc rfl rfl rfl ?_
      refine zv_p (k := 2) (f' := (69, [(0, .ref p0), (1, .int p1), (2, .long p2), (4, .ref p3), (5, .int p4), (6, .int p5)], [.int p5, .ref p3])) zq_301 zo_301 (by with_unfolding_all rfl) ?_
      replace hf := zf_be hf
      obtain ⟨v5, hv, hf⟩ := hf
      refine zv_ldA zq_301 zo_301 rfl hv ?_
      refine zv_p (k := 4) (f' := (78, [(8, .ref v5), (7, .ref v5), (0, .ref p0), (1, .int p1), (2, .long p2), (4, .ref p3), (5, .int p4), (6, .int p5)], [.ref v5])) zq_301 zo_301 (by with_unfolding_all rfl) ?_
      replace hf := zf_be hf
      obtain ⟨v6, hv, hf⟩ := hf
      refine zv_len zq_301 zo_301 rfl hv ?_
      refine zv_p (k := 3) (f' := (84, [(10, .int (0 : Int32)), (9, .int v6), (8, .ref v5), (7, .ref v5), (0, .ref p0), (1, .int p1), (2, .long p2), (4, .ref p3), (5, .int p4), (6, .int p5)], [])) zq_301 zo_301 (by with_unfolding_all rfl) ?_
      refine zv_pick (lv' := [(0, .ref p0), (1, .int p1), (2, .long p2), (4, .ref p3), (5, .int p4), (6, .int p5), (8, .ref v5), (9, .int v6), (10, .int (0 : Int32))]) [0, 1, 2, 4, 5, 6, 8, 9, 10] rfl rfl ?_
      exact t_f_ColumnVaultLaw_digest_84 ih zF _ _ _ _ _ _ _ _ _ _ _ _ hf
set_option maxHeartbeats 1000000 in
def f_ColumnVaultLaw_digest_11 : Nat → Nat → Int32 → Int64 → Int32 → zx_H → Option ((Int64 ⊕ Nat) × zx_H)
  | 0, _, _, _, _, _ => none
  | n + 1, p0, p1, p2, p3, h =>
    zf_b (zf_is 12 p0 h) fun _ =>
    zf_b3 (f_ColumnVault_size p0 p1 (1 : Int32) h) fun v1 h2 =>
    if v1 ≤ p3 then
      zf_b3 (f_ColumnVaultLaw_rows p0 p1 h2) fun v4 h5 =>
      zf_b (zf_len v4 h5) fun v7 =>
      f_ColumnVaultLaw_digest_58 zF p0 p1 p2 v4 v7 (0 : Int32) h5
    else
      zf_b (zf_is 12 p0 h2) fun _ =>
      zf_b3 (f_ColumnVault_kind p0 p1 p3 h2) fun v8 h9 =>
      (f_ColumnVaultLaw_digest_11 n) p0 p1 (((31 : Int64) * p2) + (v8).toInt64) (p3 + (1 : Int32)) h9
set_option maxHeartbeats 4000000 in
set_option maxRecDepth 400000 in
theorem t_f_ColumnVaultLaw_digest_11 {sc : (Nat × (Nat → Int32)) × Bool} {d : Nat} : ∀ (n : Nat) (p0 : Nat) (p1 : Int32) (p2 : Int64) (p3 : Int32) (h : zx_H) (r : (Int64 ⊕ Nat)) (h' : zx_H), f_ColumnVaultLaw_digest_11 n p0 p1 p2 p3 h = some (r, h') → zx_T sc (d + 6) 301 (11, [(0, .ref p0), (1, .int p1), (2, .long p2), (4, .int p3)], []) h (zf_oJx r) h' := by
  intro n
  induction n with
  | zero => intro p0 p1 p2 p3 h r h' hf; cases hf
  | succ n ih =>
    intro p0 p1 p2 p3 h r h' hf
    unfold f_ColumnVaultLaw_digest_11 at hf
    refine zv_p (k := 4) (f' := (16, [(0, .ref p0), (1, .int p1), (2, .long p2), (4, .int p3)], [.int (1 : Int32), .int p1, .ref p0, .int p3])) zq_301 zo_301 (by with_unfolding_all rfl) ?_
    replace hf := zf_be hf
    obtain ⟨_, ho, hf⟩ := hf
    replace hf := zf_b3e hf
    obtain ⟨v1, h2, hv, hf⟩ | ⟨E3, h2, hv, hf⟩ := hf
    rotate_left
    · cases hf; exact zv_cx zq_301 zo_301 rfl rfl rfl rfl rfl (zv_cv rfl rfl rfl (zf_ise ho) rfl) (t_f_ColumnVault_size _ _ _ _ _ _ hv) rfl
    refine zv_c zq_301 zo_301 rfl rfl rfl rfl rfl (zv_cv rfl rfl rfl (zf_ise ho) rfl) (t_f_ColumnVault_size _ _ _ _ _ _ hv) ?_
    replace hf := zf_ite hf
    obtain ⟨hc, hf⟩ | ⟨hc, hf⟩ := hf
    · refine zv_brT (off := 24) (tt := 43) (r := []) zq_301 zo_301 hc rfl rfl rfl ?_
      refine zv_p (k := 2) (f' := (45, [(0, .ref p0), (1, .int p1), (2, .long p2), (4, .int p3)], [.int p1, .ref p0])) zq_301 zo_301 (by with_unfolding_all rfl) ?_
      replace hf := zf_b3e hf
      obtain ⟨v4, h5, hv, hf⟩ | ⟨E6, h5, hv, hf⟩ := hf
      rotate_left
      · cases hf; exact zv_cx zq_301 zo_301 rfl rfl rfl rfl rfl rfl (t_f_ColumnVaultLaw_rows _ _ _ _ _ hv) rfl
      refine zv_c zq_301 zo_301 rfl rfl rfl rfl rfl rfl (t_f_ColumnVaultLaw_rows _ _ _ _ _ hv) ?_
      refine zv_p (k := 2) (f' := (52, [(4, .ref v4), (0, .ref p0), (1, .int p1), (2, .long p2)], [.ref v4])) zq_301 zo_301 (by with_unfolding_all rfl) ?_
      replace hf := zf_be hf
      obtain ⟨v7, hv, hf⟩ := hf
      refine zv_len zq_301 zo_301 rfl hv ?_
      refine zv_p (k := 3) (f' := (58, [(6, .int (0 : Int32)), (5, .int v7), (4, .ref v4), (0, .ref p0), (1, .int p1), (2, .long p2)], [])) zq_301 zo_301 (by with_unfolding_all rfl) ?_
      refine zv_pick (lv' := [(0, .ref p0), (1, .int p1), (2, .long p2), (4, .ref v4), (5, .int v7), (6, .int (0 : Int32))]) [0, 1, 2, 4, 5, 6] rfl rfl ?_
      exact t_f_ColumnVaultLaw_digest_58 zF _ _ _ _ _ _ _ _ _ hf
    · refine zv_brF (off := 24) (tt := 43) (r := []) zq_301 zo_301 hc rfl rfl rfl ?_
      refine zv_lng zq_301 zo_301 rfl rfl ?_
      refine zv_p (k := 5) (f' := (31, [(0, .ref p0), (1, .int p1), (2, .long p2), (4, .int p3)], [.int p3, .int p1, .ref p0, .long ((31 : Int64) * p2)])) zq_301 zo_301 (by with_unfolding_all rfl) ?_
      replace hf := zf_be hf
      obtain ⟨_, ho, hf⟩ := hf
      replace hf := zf_b3e hf
      obtain ⟨v8, h9, hv, hf⟩ | ⟨E10, h9, hv, hf⟩ := hf
      rotate_left
      · cases hf; exact zv_cx zq_301 zo_301 rfl rfl rfl rfl rfl (zv_cv rfl rfl rfl (zf_ise ho) rfl) (t_f_ColumnVault_kind _ _ _ _ _ _ hv) rfl
      refine zv_c zq_301 zo_301 rfl rfl rfl rfl rfl (zv_cv rfl rfl rfl (zf_ise ho) rfl) (t_f_ColumnVault_kind _ _ _ _ _ _ hv) ?_
      refine zv_p (k := 5) (f' := (11, [(4, .int (p3 + (1 : Int32))), (2, .long (((31 : Int64) * p2) + (v8).toInt64)), (0, .ref p0), (1, .int p1)], [])) zq_301 zo_301 (by with_unfolding_all rfl) ?_
      refine zv_pick (lv' := [(0, .ref p0), (1, .int p1), (2, .long (((31 : Int64) * p2) + (v8).toInt64)), (4, .int (p3 + (1 : Int32)))]) [0, 1, 2, 4] rfl rfl ?_
      exact ih _ _ _ _ _ _ _ hf
set_option maxHeartbeats 1000000 in
def f_ColumnVaultLaw_digest (p0 : Nat) (p1 : Int32) (h : zx_H) : Option ((Int64 ⊕ Nat) × zx_H) :=
  zf_b (zf_is 12 p0 h) fun _ =>
  zf_b3 (f_ColumnVault_size p0 p1 (1 : Int32) h) fun v1 h2 =>
  f_ColumnVaultLaw_digest_11 zF p0 p1 ((v1).toInt64) (0 : Int32) h2
set_option maxHeartbeats 4000000 in
set_option maxRecDepth 400000 in
theorem t_f_ColumnVaultLaw_digest {sc : (Nat × (Nat → Int32)) × Bool} {d : Nat} (p0 : Nat) (p1 : Int32) (h : zx_H) (r : (Int64 ⊕ Nat)) (h' : zx_H) (hf : f_ColumnVaultLaw_digest p0 p1 h = some (r, h')) : zx_T sc (d + 6) 301 (0, [(0, .ref p0), (1, .int p1)], []) h (zf_oJx r) h' := by
  unfold f_ColumnVaultLaw_digest at hf
  refine zv_p (k := 3) (f' := (3, [(0, .ref p0), (1, .int p1)], [.int (1 : Int32), .int p1, .ref p0])) zq_301 zo_301 (by with_unfolding_all rfl) ?_
  replace hf := zf_be hf
  obtain ⟨_, ho, hf⟩ := hf
  replace hf := zf_b3e hf
  obtain ⟨v1, h2, hv, hf⟩ | ⟨E3, h2, hv, hf⟩ := hf
  rotate_left
  · cases hf; exact zv_cx zq_301 zo_301 rfl rfl rfl rfl rfl (zv_cv rfl rfl rfl (zf_ise ho) rfl) (t_f_ColumnVault_size _ _ _ _ _ _ hv) rfl
  refine zv_c zq_301 zo_301 rfl rfl rfl rfl rfl (zv_cv rfl rfl rfl (zf_ise ho) rfl) (t_f_ColumnVault_size _ _ _ _ _ _ hv) ?_
  refine zv_p (k := 4) (f' := (11, [(4, .int (0 : Int32)), (2, .long (v1).toInt64), (0, .ref p0), (1, .int p1)], [])) zq_301 zo_301 (by with_unfolding_all rfl) ?_
  refine zv_pick (lv' := [(0, .ref p0), (1, .int p1), (2, .long (v1).toInt64), (4, .int (0 : Int32))]) [0, 1, 2, 4] rfl rfl ?_
  exact t_f_ColumnVaultLaw_digest_11 zF _ _ _ _ _ _ _ hf
/-! ColumnVaultLaw.isBack (LColumnVault;arr I)Z -/
noncomputable def zI_300 : zd_T := [[(0, .aload_n 0, 1), (1, .invokevirtual 198, 3), (4, .istore_n 2, 1), (5, .iconst 3, 1), (6, .newarray .long, 2), (8, .dup, 1), (9, .iconst 0, 1), (10, .aload_n 0, 1), (11, .iconst 0, 1), (12, .invokestatic 380, 3), (15, .lastore, 1), (16, .dup, 1), (17, .iconst 1, 1), (18, .aload_n 0, 1), (19, .iconst 1, 1), (20, .invokestatic 380, 3), (23, .lastore, 1), (24, .dup, 1), (25, .iconst 2, 1), (26, .aload_n 0, 1), (27, .iconst 2, 1), (28, .invokestatic 380, 3), (31, .lastore, 1)], [(32, .astore_n 3, 1), (33, .aload_n 1, 1), (34, .bipush 13, 2), (36, .invokestatic 16, 3), (39, .istore 4, 2), (41, .iconst 0, 1), (42, .istore 5, 2), (44, .iload 5, 2), (46, .iload 4, 2), (48, .if_icmp .ge 127, 3), (51, .aload_n 1, 1), (52, .iconst 3, 1), (53, .invokestatic 16, 3), (56, .istore 6, 2), (58, .aload_n 0, 1), (59, .iload 6, 2), (61, .iconst 0, 1), (62, .invokevirtual 147, 3)], [(65, .istore 7, 2), (67, .aload_n 1, 1), (68, .iconst 3, 1), (69, .invokestatic 16, 3), (72, .ifCond .eq 8, 3), (75, .iload 7, 2), (77, .ifCond .ne 12, 3), (80, .aload_n 0, 1), (81, .iload 6, 2), (83, .invokevirtual 313, 3), (86, .goto 61, 3), (89, .aload_n 1, 1), (90, .iconst 2, 1), (91, .invokestatic 16, 3), (94, .ifCond .ne 25, 3)], [(97, .aload_n 0, 1), (98, .iload 6, 2), (100, .aload_n 1, 1), (101, .aload_n 0, 1), (102, .iload 6, 2), (104, .iconst 1, 1), (105, .invokevirtual 147, 3), (108, .invokestatic 16, 3), (111, .iconst 1, 1), (112, .iconst 0, 1), (113, .invokevirtual 206, 3), (116, .goto 31, 3), (119, .aload_n 0, 1), (120, .iload 6, 2), (122, .aload_n 1, 1), (123, .iload 7, 2), (125, .invokestatic 16, 3)], [(128, .iconst 0, 1), (129, .aload_n 1, 1), (130, .bipush 9, 2), (132, .invokestatic 16, 3), (135, .i2l, 1), (136, .invokevirtual 87, 3), (139, .ifCond .eq 7, 3), (142, .iconst 1, 1), (143, .goto 4, 3), (146, .iconst 0, 1), (147, .istore 8, 2), (149, .iload 8, 2), (151, .ifCond .lt 16, 3), (154, .aload_n 0, 1), (155, .invokevirtual 198, 3), (158, .iload_n 2, 1), (159, .iload 5, 2)], [(161, .iadd, 1), (162, .iconst 1, 1), (163, .iadd, 1), (164, .if_icmp .eq 5, 3), (167, .iconst 0, 1), (168, .ireturn, 1), (169, .iinc 5 1, 3), (172, .goto (-128), 3), (175, .iconst 3, 1), (176, .newarray .long, 2), (178, .dup, 1), (179, .iconst 0, 1), (180, .aload_n 0, 1), (181, .iconst 0, 1), (182, .invokestatic 380, 3), (185, .lastore, 1), (186, .dup, 1), (187, .iconst 1, 1), (188, .aload_n 0, 1), (189, .iconst 1, 1), (190, .invokestatic 380, 3)], [(193, .lastore, 1), (194, .dup, 1), (195, .iconst 2, 1), (196, .aload_n 0, 1), (197, .iconst 2, 1), (198, .invokestatic 380, 3), (201, .lastore, 1), (202, .astore 5, 2), (204, .iload 4, 2), (206, .bipush 11, 2), (208, .if_icmp .le 44, 3), (211, .aload_n 0, 1), (212, .iconst 5, 1), (213, .iload_n 2, 1), (214, .iconst 0, 1), (215, .lconst 0, 1), (216, .invokestatic 278, 3), (219, .ldc2_w 152, 3), (222, .lcmp, 1), (223, .ifCond .ne 27, 3)], [(226, .aload_n 0, 1), (227, .iconst 5, 1), (228, .aload_n 0, 1), (229, .invokevirtual 198, 3), (232, .iconst 1, 1), (233, .iadd, 1), (234, .iconst 0, 1), (235, .lconst 0, 1), (236, .invokestatic 278, 3), (239, .ldc2_w 152, 3), (242, .lcmp, 1), (243, .ifCond .ne 7, 3), (246, .iconst 1, 1), (247, .goto 4, 3), (250, .iconst 0, 1), (251, .ireturn, 1), (252, .aload_n 0, 1), (253, .iload_n 2, 1), (254, .invokevirtual 95, 3)], [(257, .iload_n 2, 1), (258, .iload 4, 2), (260, .iadd, 1), (261, .iconst 1, 1), (262, .iadd, 1), (263, .if_icmp .ne 16, 3), (266, .aload_n 0, 1), (267, .invokevirtual 198, 3), (270, .iload_n 2, 1), (271, .iload 4, 2), (273, .iadd, 1), (274, .iconst 1, 1), (275, .iadd, 1), (276, .if_icmp .eq 5, 3), (279, .iconst 0, 1), (280, .ireturn, 1), (281, .iconst 0, 1), (282, .istore 6, 2), (284, .iload 6, 2), (286, .iconst 3, 1), (287, .if_icmp .ge 25, 3)], [(290, .aload_n 0, 1), (291, .iload 6, 2), (293, .invokestatic 380, 3), (296, .aload_n 3, 1), (297, .iload 6, 2), (299, .laload, 1), (300, .lcmp, 1), (301, .ifCond .eq 5, 3), (304, .iconst 0, 1), (305, .ireturn, 1), (306, .iinc 6 1, 3), (309, .goto (-25), 3), (312, .aload_n 0, 1), (313, .iload_n 2, 1), (314, .iload 4, 2), (316, .iadd, 1), (317, .invokevirtual 95, 3)], [(320, .iload_n 2, 1), (321, .iload 4, 2), (323, .iadd, 1), (324, .iconst 2, 1), (325, .iadd, 1), (326, .if_icmp .eq 5, 3), (329, .iconst 0, 1), (330, .ireturn, 1), (331, .iconst 0, 1), (332, .istore 6, 2), (334, .iload 6, 2), (336, .iconst 3, 1), (337, .if_icmp .ge 26, 3), (340, .aload_n 0, 1), (341, .iload 6, 2), (343, .invokestatic 380, 3), (346, .aload 5, 2), (348, .iload 6, 2), (350, .laload, 1), (351, .lcmp, 1)], [(352, .ifCond .eq 5, 3), (355, .iconst 0, 1), (356, .ireturn, 1), (357, .iinc 6 1, 3), (360, .goto (-26), 3), (363, .iconst 1, 1), (364, .ireturn, 1)]]
theorem zo_300 : zd_of 300 = some zI_300 := rfl
set_option maxRecDepth 100000 in
theorem zq_300 : zt_m[300]? = some (⟨"ColumnVaultLaw", "isBack", "(LColumnVault;[I)Z"⟩, method_30_code, 9, some (.boolean), [], 17, 2, 0, 1, 99999, 0) := rfl
set_option maxHeartbeats 1000000 in
def f_ColumnVaultLaw_isBack_147 (k44 : Nat → Nat → Int32 → Nat → Int32 → Int32 → zx_H → Option ((Int32 ⊕ Nat) × zx_H)) (p0 : Nat) (p1 : Nat) (p2 : Int32) (p3 : Nat) (p4 : Int32) (p5 : Int32) (p6 : Int32) (h : zx_H) : Option ((Int32 ⊕ Nat) × zx_H) :=
  if p6 < 0 then
    some (.inl (0 : Int32), h)
  else
    zf_b (zf_is 12 p0 h) fun _ =>
    zf_b2 (f_ColumnVault_version p0 h) fun v1 h2 =>
    if v1 = ((p2 + p5) + (1 : Int32)) then
      k44 p0 p1 p2 p3 p4 (p5 + (1 : Int32)) h2
    else
      some (.inl (0 : Int32), h2)
set_option maxHeartbeats 4000000 in
set_option maxRecDepth 400000 in
theorem t_f_ColumnVaultLaw_isBack_147 {sc : (Nat × (Nat → Int32)) × Bool} {d : Nat} {k44 : Nat → Nat → Int32 → Nat → Int32 → Int32 → zx_H → Option ((Int32 ⊕ Nat) × zx_H)} (hk44 : ∀ (a0 : Nat) (a1 : Nat) (a2 : Int32) (a3 : Nat) (a4 : Int32) (a5 : Int32) (h : zx_H) (r : (Int32 ⊕ Nat)) (h' : zx_H), k44 a0 a1 a2 a3 a4 a5 h = some (r, h') → zx_T sc (d + 125) 300 (44, [(0, .ref a0), (1, .ref a1), (2, .int a2), (3, .ref a3), (4, .int a4), (5, .int a5)], []) h (zf_oIx r) h') (p0 : Nat) (p1 : Nat) (p2 : Int32) (p3 : Nat) (p4 : Int32) (p5 : Int32) (p6 : Int32) (h : zx_H) (r : (Int32 ⊕ Nat)) (h' : zx_H) (hf : f_ColumnVaultLaw_isBack_147 k44 p0 p1 p2 p3 p4 p5 p6 h = some (r, h')) : zx_T sc (d + 125) 300 (147, [(0, .ref p0), (1, .ref p1), (2, .int p2), (3, .ref p3), (4, .int p4), (5, .int p5)], [.int p6]) h (zf_oIx r) h' := by
  unfold f_ColumnVaultLaw_isBack_147 at hf
  refine zv_p (k := 2) (f' := (151, [(8, .int p6), (0, .ref p0), (1, .ref p1), (2, .int p2), (3, .ref p3), (4, .int p4), (5, .int p5)], [.int p6])) zq_300 zo_300 (by with_unfolding_all rfl) ?_
  replace hf := zf_ite hf
  obtain ⟨hc, hf⟩ | ⟨hc, hf⟩ := hf
  · refine zv_brT (off := 16) (tt := 167) (r := []) zq_300 zo_300 hc rfl rfl rfl ?_
    refine zv_p (k := 1) (f' := (168, [(8, .int p6), (0, .ref p0), (1, .ref p1), (2, .int p2), (3, .ref p3), (4, .int p4), (5, .int p5)], [.int (0 : Int32)])) zq_300 zo_300 (by with_unfolding_all rfl) ?_
    cases hf
    exact zv_rn zq_300 zo_300 rfl rfl
  · refine zv_brF (off := 16) (tt := 167) (r := []) zq_300 zo_300 hc rfl rfl rfl ?_
    refine zv_p (k := 1) (f' := (155, [(8, .int p6), (0, .ref p0), (1, .ref p1), (2, .int p2), (3, .ref p3), (4, .int p4), (5, .int p5)], [.ref p0])) zq_300 zo_300 (by with_unfolding_all rfl) ?_
    replace hf := zf_be hf
    obtain ⟨_, ho, hf⟩ := hf
    replace hf := zf_b2e hf
    obtain ⟨v1, h2, hv, hf⟩ := hf
    refine zv_c zq_300 zo_300 rfl rfl rfl rfl rfl (zv_cv rfl rfl rfl (zf_ise ho) rfl) (t_f_ColumnVault_version _ _ _ _ hv) ?_
    refine zv_p (k := 5) (f' := (164, [(8, .int p6), (0, .ref p0), (1, .ref p1), (2, .int p2), (3, .ref p3), (4, .int p4), (5, .int p5)], [.int ((p2 + p5) + (1 : Int32)), .int v1])) zq_300 zo_300 (by with_unfolding_all rfl) ?_
    replace hf := zf_ite hf
    obtain ⟨hc, hf⟩ | ⟨hc, hf⟩ := hf
    · refine zv_brT (off := 5) (tt := 169) (r := []) zq_300 zo_300 hc rfl rfl rfl ?_
      refine zv_p (k := 2) (f' := (44, [(5, .int (p5 + (1 : Int32))), (8, .int p6), (0, .ref p0), (1, .ref p1), (2, .int p2), (3, .ref p3), (4, .int p4)], [])) zq_300 zo_300 (by with_unfolding_all rfl) ?_
      refine zv_pick (lv' := [(0, .ref p0), (1, .ref p1), (2, .int p2), (3, .ref p3), (4, .int p4), (5, .int (p5 + (1 : Int32)))]) [0, 1, 2, 3, 4, 5] rfl rfl ?_
      exact hk44 _ _ _ _ _ _ _ _ _ hf
    · refine zv_brF (off := 5) (tt := 169) (r := []) zq_300 zo_300 hc rfl rfl rfl ?_
      refine zv_p (k := 1) (f' := (168, [(8, .int p6), (0, .ref p0), (1, .ref p1), (2, .int p2), (3, .ref p3), (4, .int p4), (5, .int p5)], [.int (0 : Int32)])) zq_300 zo_300 (by with_unfolding_all rfl) ?_
      cases hf
      exact zv_rn zq_300 zo_300 rfl rfl
set_option maxHeartbeats 1000000 in
def f_ColumnVaultLaw_isBack_334 : Nat → Nat → Nat → Int32 → zx_H → Option ((Int32 ⊕ Nat) × zx_H)
  | 0, _, _, _, _ => none
  | n + 1, p0, p1, p2, h =>
    if (3 : Int32) ≤ p2 then
      some (.inl (1 : Int32), h)
    else
      zf_b3 (f_ColumnVaultLaw_digest p0 p2 h) fun v1 h2 =>
      zf_b (zf_ldJ p1 p2 h2) fun v4 =>
      if v1 = v4 then
        (f_ColumnVaultLaw_isBack_334 n) p0 p1 (p2 + (1 : Int32)) h2
      else
        some (.inl (0 : Int32), h2)
set_option maxHeartbeats 4000000 in
set_option maxRecDepth 400000 in
theorem t_f_ColumnVaultLaw_isBack_334 {sc : (Nat × (Nat → Int32)) × Bool} {d : Nat} : ∀ (n : Nat) (p0 : Nat) (p1 : Nat) (p2 : Int32) (h : zx_H) (r : (Int32 ⊕ Nat)) (h' : zx_H), f_ColumnVaultLaw_isBack_334 n p0 p1 p2 h = some (r, h') → zx_T sc (d + 125) 300 (334, [(0, .ref p0), (5, .ref p1), (6, .int p2)], []) h (zf_oIx r) h' := by
  intro n
  induction n with
  | zero => intro p0 p1 p2 h r h' hf; cases hf
  | succ n ih =>
    intro p0 p1 p2 h r h' hf
    unfold f_ColumnVaultLaw_isBack_334 at hf
    refine zv_p (k := 2) (f' := (337, [(0, .ref p0), (5, .ref p1), (6, .int p2)], [.int (3 : Int32), .int p2])) zq_300 zo_300 (by with_unfolding_all rfl) ?_
    replace hf := zf_ite hf
    obtain ⟨hc, hf⟩ | ⟨hc, hf⟩ := hf
    · refine zv_brT (off := 26) (tt := 363) (r := []) zq_300 zo_300 hc rfl rfl rfl ?_
      refine zv_p (k := 1) (f' := (364, [(0, .ref p0), (5, .ref p1), (6, .int p2)], [.int (1 : Int32)])) zq_300 zo_300 (by with_unfolding_all rfl) ?_
      cases hf
      exact zv_rn zq_300 zo_300 rfl rfl
    · refine zv_brF (off := 26) (tt := 363) (r := []) zq_300 zo_300 hc rfl rfl rfl ?_
      refine zv_p (k := 2) (f' := (343, [(0, .ref p0), (5, .ref p1), (6, .int p2)], [.int p2, .ref p0])) zq_300 zo_300 (by with_unfolding_all rfl) ?_
      replace hf := zf_b3e hf
      obtain ⟨v1, h2, hv, hf⟩ | ⟨E3, h2, hv, hf⟩ := hf
      rotate_left
      · cases hf; exact zv_cx zq_300 zo_300 rfl rfl rfl rfl rfl rfl (t_f_ColumnVaultLaw_digest _ _ _ _ _ hv) rfl
      refine zv_c zq_300 zo_300 rfl rfl rfl rfl rfl rfl (t_f_ColumnVaultLaw_digest _ _ _ _ _ hv) ?_
      refine zv_p (k := 2) (f' := (350, [(0, .ref p0), (5, .ref p1), (6, .int p2)], [.int p2, .ref p1, .long v1])) zq_300 zo_300 (by with_unfolding_all rfl) ?_
      replace hf := zf_be hf
      obtain ⟨v4, hv, hf⟩ := hf
      refine zv_ldJ zq_300 zo_300 rfl hv ?_
      refine zv_p (k := 1) (f' := (352, [(0, .ref p0), (5, .ref p1), (6, .int p2)], [.int (lg_cmp v1 v4)])) zq_300 zo_300 (by with_unfolding_all rfl) ?_
      replace hf := zf_ite hf
      obtain ⟨hc, hf⟩ | ⟨hc, hf⟩ := hf
      · refine zv_brT (off := 5) (tt := 357) (r := []) zq_300 zo_300 (zl_eq.mpr hc) rfl rfl rfl ?_
        refine zv_p (k := 2) (f' := (334, [(6, .int (p2 + (1 : Int32))), (0, .ref p0), (5, .ref p1)], [])) zq_300 zo_300 (by with_unfolding_all rfl) ?_
        refine zv_pick (lv' := [(0, .ref p0), (5, .ref p1), (6, .int (p2 + (1 : Int32)))]) [0, 5, 6] rfl rfl ?_
        exact ih _ _ _ _ _ _ hf
      · refine zv_brF (off := 5) (tt := 357) (r := []) zq_300 zo_300 (mt zl_eq.mp hc) rfl rfl rfl ?_
        refine zv_p (k := 1) (f' := (356, [(0, .ref p0), (5, .ref p1), (6, .int p2)], [.int (0 : Int32)])) zq_300 zo_300 (by with_unfolding_all rfl) ?_
        cases hf
        exact zv_rn zq_300 zo_300 rfl rfl
set_option maxHeartbeats 1000000 in
def f_ColumnVaultLaw_isBack_284 : Nat → Nat → Int32 → Nat → Int32 → Nat → Int32 → zx_H → Option ((Int32 ⊕ Nat) × zx_H)
  | 0, _, _, _, _, _, _, _ => none
  | n + 1, p0, p1, p2, p3, p4, p5, h =>
    if (3 : Int32) ≤ p5 then
      zf_b (zf_is 12 p0 h) fun _ =>
      zf_b3 (f_ColumnVault_back p0 (p1 + p3) h) fun v1 h2 =>
      if v1 = ((p1 + p3) + (2 : Int32)) then
        f_ColumnVaultLaw_isBack_334 zF p0 p4 (0 : Int32) h2
      else
        some (.inl (0 : Int32), h2)
    else
      zf_b3 (f_ColumnVaultLaw_digest p0 p5 h) fun v4 h5 =>
      zf_b (zf_ldJ p2 p5 h5) fun v7 =>
      if v4 = v7 then
        (f_ColumnVaultLaw_isBack_284 n) p0 p1 p2 p3 p4 (p5 + (1 : Int32)) h5
      else
        some (.inl (0 : Int32), h5)
set_option maxHeartbeats 4000000 in
set_option maxRecDepth 400000 in
theorem t_f_ColumnVaultLaw_isBack_284 {sc : (Nat × (Nat → Int32)) × Bool} {d : Nat} : ∀ (n : Nat) (p0 : Nat) (p1 : Int32) (p2 : Nat) (p3 : Int32) (p4 : Nat) (p5 : Int32) (h : zx_H) (r : (Int32 ⊕ Nat)) (h' : zx_H), f_ColumnVaultLaw_isBack_284 n p0 p1 p2 p3 p4 p5 h = some (r, h') → zx_T sc (d + 125) 300 (284, [(0, .ref p0), (2, .int p1), (3, .ref p2), (4, .int p3), (5, .ref p4), (6, .int p5)], []) h (zf_oIx r) h' := by
  intro n
  induction n with
  | zero => intro p0 p1 p2 p3 p4 p5 h r h' hf; cases hf
  | succ n ih =>
    intro p0 p1 p2 p3 p4 p5 h r h' hf
    unfold f_ColumnVaultLaw_isBack_284 at hf
    refine zv_p (k := 2) (f' := (287, [(0, .ref p0), (2, .int p1), (3, .ref p2), (4, .int p3), (5, .ref p4), (6, .int p5)], [.int (3 : Int32), .int p5])) zq_300 zo_300 (by with_unfolding_all rfl) ?_
    replace hf := zf_ite hf
    obtain ⟨hc, hf⟩ | ⟨hc, hf⟩ := hf
    · refine zv_brT (off := 25) (tt := 312) (r := []) zq_300 zo_300 hc rfl rfl rfl ?_
      refine zv_p (k := 4) (f' := (317, [(0, .ref p0), (2, .int p1), (3, .ref p2), (4, .int p3), (5, .ref p4), (6, .int p5)], [.int (p1 + p3), .ref p0])) zq_300 zo_300 (by with_unfolding_all rfl) ?_
      replace hf := zf_be hf
      obtain ⟨_, ho, hf⟩ := hf
      replace hf := zf_b3e hf
      obtain ⟨v1, h2, hv, hf⟩ | ⟨E3, h2, hv, hf⟩ := hf
      rotate_left
      · cases hf; exact zv_cx zq_300 zo_300 rfl rfl rfl rfl rfl (zv_cv rfl rfl rfl (zf_ise ho) rfl) (t_f_ColumnVault_back _ _ _ _ _ hv) rfl
      refine zv_c zq_300 zo_300 rfl rfl rfl rfl rfl (zv_cv rfl rfl rfl (zf_ise ho) rfl) (t_f_ColumnVault_back _ _ _ _ _ hv) ?_
      refine zv_p (k := 5) (f' := (326, [(0, .ref p0), (2, .int p1), (3, .ref p2), (4, .int p3), (5, .ref p4), (6, .int p5)], [.int ((p1 + p3) + (2 : Int32)), .int v1])) zq_300 zo_300 (by with_unfolding_all rfl) ?_
      replace hf := zf_ite hf
      obtain ⟨hc, hf⟩ | ⟨hc, hf⟩ := hf
      · refine zv_brT (off := 5) (tt := 331) (r := []) zq_300 zo_300 hc rfl rfl rfl ?_
        refine zv_p (k := 2) (f' := (334, [(6, .int (0 : Int32)), (0, .ref p0), (2, .int p1), (3, .ref p2), (4, .int p3), (5, .ref p4)], [])) zq_300 zo_300 (by with_unfolding_all rfl) ?_
        refine zv_pick (lv' := [(0, .ref p0), (5, .ref p4), (6, .int (0 : Int32))]) [0, 5, 6] rfl rfl ?_
        exact t_f_ColumnVaultLaw_isBack_334 zF _ _ _ _ _ _ hf
      · refine zv_brF (off := 5) (tt := 331) (r := []) zq_300 zo_300 hc rfl rfl rfl ?_
        refine zv_p (k := 1) (f' := (330, [(0, .ref p0), (2, .int p1), (3, .ref p2), (4, .int p3), (5, .ref p4), (6, .int p5)], [.int (0 : Int32)])) zq_300 zo_300 (by with_unfolding_all rfl) ?_
        cases hf
        exact zv_rn zq_300 zo_300 rfl rfl
    · refine zv_brF (off := 25) (tt := 312) (r := []) zq_300 zo_300 hc rfl rfl rfl ?_
      refine zv_p (k := 2) (f' := (293, [(0, .ref p0), (2, .int p1), (3, .ref p2), (4, .int p3), (5, .ref p4), (6, .int p5)], [.int p5, .ref p0])) zq_300 zo_300 (by with_unfolding_all rfl) ?_
      replace hf := zf_b3e hf
      obtain ⟨v4, h5, hv, hf⟩ | ⟨E6, h5, hv, hf⟩ := hf
      rotate_left
      · cases hf; exact zv_cx zq_300 zo_300 rfl rfl rfl rfl rfl rfl (t_f_ColumnVaultLaw_digest _ _ _ _ _ hv) rfl
      refine zv_c zq_300 zo_300 rfl rfl rfl rfl rfl rfl (t_f_ColumnVaultLaw_digest _ _ _ _ _ hv) ?_
      refine zv_p (k := 2) (f' := (299, [(0, .ref p0), (2, .int p1), (3, .ref p2), (4, .int p3), (5, .ref p4), (6, .int p5)], [.int p5, .ref p2, .long v4])) zq_300 zo_300 (by with_unfolding_all rfl) ?_
      replace hf := zf_be hf
      obtain ⟨v7, hv, hf⟩ := hf
      refine zv_ldJ zq_300 zo_300 rfl hv ?_
      refine zv_p (k := 1) (f' := (301, [(0, .ref p0), (2, .int p1), (3, .ref p2), (4, .int p3), (5, .ref p4), (6, .int p5)], [.int (lg_cmp v4 v7)])) zq_300 zo_300 (by with_unfolding_all rfl) ?_
      replace hf := zf_ite hf
      obtain ⟨hc, hf⟩ | ⟨hc, hf⟩ := hf
      · refine zv_brT (off := 5) (tt := 306) (r := []) zq_300 zo_300 (zl_eq.mpr hc) rfl rfl rfl ?_
        refine zv_p (k := 2) (f' := (284, [(6, .int (p5 + (1 : Int32))), (0, .ref p0), (2, .int p1), (3, .ref p2), (4, .int p3), (5, .ref p4)], [])) zq_300 zo_300 (by with_unfolding_all rfl) ?_
        refine zv_pick (lv' := [(0, .ref p0), (2, .int p1), (3, .ref p2), (4, .int p3), (5, .ref p4), (6, .int (p5 + (1 : Int32)))]) [0, 2, 3, 4, 5, 6] rfl rfl ?_
        exact ih _ _ _ _ _ _ _ _ _ hf
      · refine zv_brF (off := 5) (tt := 306) (r := []) zq_300 zo_300 (mt zl_eq.mp hc) rfl rfl rfl ?_
        refine zv_p (k := 1) (f' := (305, [(0, .ref p0), (2, .int p1), (3, .ref p2), (4, .int p3), (5, .ref p4), (6, .int p5)], [.int (0 : Int32)])) zq_300 zo_300 (by with_unfolding_all rfl) ?_
        cases hf
        exact zv_rn zq_300 zo_300 rfl rfl
