set_option maxHeartbeats 1000000 in
def f_ColumnVaultLaw_draws_89 (p0 : Nat) (p1 : Nat) (p2 : Int32) (p3 : Int32) (p4 : Int32) (h : zx_H) : Option ((Unit ⊕ Nat) × zx_H) :=
  zf_b2 (f_ColumnVaultLaw_draw p1 (3 : Int32) h) fun v1 h2 =>
  if ¬ v1 = 0 then
    f_ColumnVaultLaw_draws_138 zF p0 p1 p2 p3 p4 (0 : Int32) h2
  else
    zf_b2 (f_ColumnVaultLaw_draw p1 (41 : Int32) h2) fun v3 h4 =>
    zf_b2 (f_ColumnVaultLaw_draw p1 (7 : Int32) h4) fun v5 h6 =>
    zf_b2 (f_ColumnVaultLaw_draw p1 (6 : Int32) h6) fun v7 h8 =>
    zf_b (zf_is 12 p0 h8) fun _ =>
    zf_b3 (f_ColumnVault_fill p0 p2 (0 : Int32) (v3 - (20 : Int32)) (v5 - (3 : Int32)) ((1 : Int32) + v7) h8) fun v9 h10 =>
    if (1 : Int32) ≤ v9 then
      f_ColumnVaultLaw_draws_138 zF p0 p1 p2 p3 p4 (0 : Int32) h10
    else
      some (.inl (), h10)
set_option maxHeartbeats 4000000 in
set_option maxRecDepth 400000 in
theorem t_f_ColumnVaultLaw_draws_89 {sc : (Nat × (Nat → Int32)) × Bool} {d : Nat} (p0 : Nat) (p1 : Nat) (p2 : Int32) (p3 : Int32) (p4 : Int32) (h : zx_H) (r : (Unit ⊕ Nat)) (h' : zx_H) (hf : f_ColumnVaultLaw_draws_89 p0 p1 p2 p3 p4 h = some (r, h')) : zx_T sc (d + 8) 127 (89, [(0, .ref p0), (1, .ref p1), (2, .int p2), (3, .int p3)], [.int p4]) h (zf_oVx r) h' := by
  unfold f_ColumnVaultLaw_draws_89 at hf
  refine zv_p (k := 3) (f' := (93, [(5, .int p4), (0, .ref p0), (1, .ref p1), (2, .int p2), (3, .int p3)], [.int (3 : Int32), .ref p1])) zq_127 zo_127 (by with_unfolding_all rfl) ?_
  replace hf := zf_b2e hf
  obtain ⟨v1, h2, hv, hf⟩ := hf
  refine zv_c zq_127 zo_127 rfl rfl rfl rfl rfl rfl (t_f_ColumnVaultLaw_draw _ _ _ _ _ hv) ?_
  replace hf := zf_ite hf
  obtain ⟨hc, hf⟩ | ⟨hc, hf⟩ := hf
  · refine zv_brT (off := 39) (tt := 135) (r := []) zq_127 zo_127 hc rfl rfl rfl ?_
    refine zv_p (k := 2) (f' := (138, [(6, .int (0 : Int32)), (5, .int p4), (0, .ref p0), (1, .ref p1), (2, .int p2), (3, .int p3)], [])) zq_127 zo_127 (by with_unfolding_all rfl) ?_
    refine zv_pick (lv' := [(0, .ref p0), (1, .ref p1), (2, .int p2), (3, .int p3), (5, .int p4), (6, .int (0 : Int32))]) [0, 1, 2, 3, 5, 6] rfl rfl ?_
    exact t_f_ColumnVaultLaw_draws_138 zF _ _ _ _ _ _ _ _ _ hf
  · refine zv_brF (off := 39) (tt := 135) (r := []) zq_127 zo_127 hc rfl rfl rfl ?_
    refine zv_p (k := 5) (f' := (105, [(5, .int p4), (0, .ref p0), (1, .ref p1), (2, .int p2), (3, .int p3)], [.int (41 : Int32), .ref p1, .int (0 : Int32), .int p2, .ref p0])) zq_127 zo_127 (by with_unfolding_all rfl) ?_
    replace hf := zf_b2e hf
    obtain ⟨v3, h4, hv, hf⟩ := hf
    refine zv_c zq_127 zo_127 rfl rfl rfl rfl rfl rfl (t_f_ColumnVaultLaw_draw _ _ _ _ _ hv) ?_
    refine zv_p (k := 4) (f' := (114, [(5, .int p4), (0, .ref p0), (1, .ref p1), (2, .int p2), (3, .int p3)], [.int (7 : Int32), .ref p1, .int (v3 - (20 : Int32)), .int (0 : Int32), .int p2, .ref p0])) zq_127 zo_127 (by with_unfolding_all rfl) ?_
    replace hf := zf_b2e hf
    obtain ⟨v5, h6, hv, hf⟩ := hf
    refine zv_c zq_127 zo_127 rfl rfl rfl rfl rfl rfl (t_f_ColumnVaultLaw_draw _ _ _ _ _ hv) ?_
    refine zv_p (k := 5) (f' := (123, [(5, .int p4), (0, .ref p0), (1, .ref p1), (2, .int p2), (3, .int p3)], [.int (6 : Int32), .ref p1, .int (1 : Int32), .int (v5 - (3 : Int32)), .int (v3 - (20 : Int32)), .int (0 : Int32), .int p2, .ref p0])) zq_127 zo_127 (by with_unfolding_all rfl) ?_
    replace hf := zf_b2e hf
    obtain ⟨v7, h8, hv, hf⟩ := hf
    refine zv_c zq_127 zo_127 rfl rfl rfl rfl rfl rfl (t_f_ColumnVaultLaw_draw _ _ _ _ _ hv) ?_
    refine zv_p (k := 1) (f' := (127, [(5, .int p4), (0, .ref p0), (1, .ref p1), (2, .int p2), (3, .int p3)], [.int ((1 : Int32) + v7), .int (v5 - (3 : Int32)), .int (v3 - (20 : Int32)), .int (0 : Int32), .int p2, .ref p0])) zq_127 zo_127 (by with_unfolding_all rfl) ?_
    replace hf := zf_be hf
    obtain ⟨_, ho, hf⟩ := hf
    replace hf := zf_b3e hf
    obtain ⟨v9, h10, hv, hf⟩ | ⟨E11, h10, hv, hf⟩ := hf
    rotate_left
    · cases hf; exact zv_cx zq_127 zo_127 rfl rfl rfl rfl rfl (zv_cv rfl rfl rfl (zf_ise ho) rfl) (t_f_ColumnVault_fill _ _ _ _ _ _ _ _ _ hv) rfl
    refine zv_c zq_127 zo_127 rfl rfl rfl rfl rfl (zv_cv rfl rfl rfl (zf_ise ho) rfl) (t_f_ColumnVault_fill _ _ _ _ _ _ _ _ _ hv) ?_
    refine zv_p (k := 1) (f' := (131, [(5, .int p4), (0, .ref p0), (1, .ref p1), (2, .int p2), (3, .int p3)], [.int (1 : Int32), .int v9])) zq_127 zo_127 (by with_unfolding_all rfl) ?_
    replace hf := zf_ite hf
    obtain ⟨hc, hf⟩ | ⟨hc, hf⟩ := hf
    · refine zv_brT (off := 4) (tt := 135) (r := []) zq_127 zo_127 hc rfl rfl rfl ?_
      refine zv_p (k := 2) (f' := (138, [(6, .int (0 : Int32)), (5, .int p4), (0, .ref p0), (1, .ref p1), (2, .int p2), (3, .int p3)], [])) zq_127 zo_127 (by with_unfolding_all rfl) ?_
      refine zv_pick (lv' := [(0, .ref p0), (1, .ref p1), (2, .int p2), (3, .int p3), (5, .int p4), (6, .int (0 : Int32))]) [0, 1, 2, 3, 5, 6] rfl rfl ?_
      exact t_f_ColumnVaultLaw_draws_138 zF _ _ _ _ _ _ _ _ _ hf
    · refine zv_brF (off := 4) (tt := 135) (r := []) zq_127 zo_127 hc rfl rfl rfl ?_
      cases hf
      exact zv_r zq_127 zo_127 rfl rfl rfl rfl rfl
set_option maxHeartbeats 1000000 in
def f_ColumnVaultLaw_draws_8 : Nat → Nat → Nat → Int32 → Int32 → Nat → Int32 → zx_H → Option ((Unit ⊕ Nat) × zx_H)
  | 0, _, _, _, _, _, _, _ => none
  | n + 1, p0, p1, p2, p3, p4, p5, h =>
    if p3 ≤ p5 then
      zf_b2 (f_ColumnVaultLaw_draw p1 (3 : Int32) h) fun v1 h2 =>
      if ¬ v1 = 0 then
        zf_b2 (f_ColumnVaultLaw_draw p1 (9 : Int32) h2) fun v3 h4 =>
        f_ColumnVaultLaw_draws_89 p0 p1 p2 p3 v3 h4
      else
        zf_b2 (f_ColumnVaultLaw_draw p1 (20 : Int32) h2) fun v5 h6 =>
        f_ColumnVaultLaw_draws_89 p0 p1 p2 p3 v5 h6
    else
      if ¬ p5 = 0 then
        zf_b2 (f_ColumnVaultLaw_draw p1 (2 : Int32) h) fun v7 h8 =>
        f_ColumnVaultLaw_draws_32 (f_ColumnVaultLaw_draws_8 n) p0 p1 p2 p3 p4 p5 p4 p5 v7 h8
      else
        f_ColumnVaultLaw_draws_32 (f_ColumnVaultLaw_draws_8 n) p0 p1 p2 p3 p4 p5 p4 p5 (0 : Int32) h
set_option maxHeartbeats 4000000 in
set_option maxRecDepth 400000 in
theorem t_f_ColumnVaultLaw_draws_8 {sc : (Nat × (Nat → Int32)) × Bool} {d : Nat} : ∀ (n : Nat) (p0 : Nat) (p1 : Nat) (p2 : Int32) (p3 : Int32) (p4 : Nat) (p5 : Int32) (h : zx_H) (r : (Unit ⊕ Nat)) (h' : zx_H), f_ColumnVaultLaw_draws_8 n p0 p1 p2 p3 p4 p5 h = some (r, h') → zx_T sc (d + 8) 127 (8, [(0, .ref p0), (1, .ref p1), (2, .int p2), (3, .int p3), (4, .ref p4), (5, .int p5)], []) h (zf_oVx r) h' := by
  intro n
  induction n with
  | zero => intro p0 p1 p2 p3 p4 p5 h r h' hf; cases hf
  | succ n ih =>
    intro p0 p1 p2 p3 p4 p5 h r h' hf
    unfold f_ColumnVaultLaw_draws_8 at hf
    refine zv_p (k := 2) (f' := (11, [(0, .ref p0), (1, .ref p1), (2, .int p2), (3, .int p3), (4, .ref p4), (5, .int p5)], [.int p3, .int p5])) zq_127 zo_127 (by with_unfolding_all rfl) ?_
    replace hf := zf_ite hf
    obtain ⟨hc, hf⟩ | ⟨hc, hf⟩ := hf
    · refine zv_brT (off := 55) (tt := 66) (r := []) zq_127 zo_127 hc rfl rfl rfl ?_
      refine zv_p (k := 2) (f' := (68, [(0, .ref p0), (1, .ref p1), (2, .int p2), (3, .int p3), (4, .ref p4), (5, .int p5)], [.int (3 : Int32), .ref p1])) zq_127 zo_127 (by with_unfolding_all rfl) ?_
      replace hf := zf_b2e hf
      obtain ⟨v1, h2, hv, hf⟩ := hf
      refine zv_c zq_127 zo_127 rfl rfl rfl rfl rfl rfl (t_f_ColumnVaultLaw_draw _ _ _ _ _ hv) ?_
      replace hf := zf_ite hf
      obtain ⟨hc, hf⟩ | ⟨hc, hf⟩ := hf
      · refine zv_brT (off := 12) (tt := 83) (r := []) zq_127 zo_127 hc rfl rfl rfl ?_
        refine zv_p (k := 2) (f' := (86, [(0, .ref p0), (1, .ref p1), (2, .int p2), (3, .int p3), (4, .ref p4), (5, .int p5)], [.int (9 : Int32), .ref p1])) zq_127 zo_127 (by with_unfolding_all rfl) ?_
        replace hf := zf_b2e hf
        obtain ⟨v3, h4, hv, hf⟩ := hf
        refine zv_c zq_127 zo_127 rfl rfl rfl rfl rfl rfl (t_f_ColumnVaultLaw_draw _ _ _ _ _ hv) ?_
        refine zv_pick (lv' := [(0, .ref p0), (1, .ref p1), (2, .int p2), (3, .int p3)]) [0, 1, 2, 3] rfl rfl ?_
        exact t_f_ColumnVaultLaw_draws_89 _ _ _ _ _ _ _ _ hf
      · refine zv_brF (off := 12) (tt := 83) (r := []) zq_127 zo_127 hc rfl rfl rfl ?_
        refine zv_p (k := 2) (f' := (77, [(0, .ref p0), (1, .ref p1), (2, .int p2), (3, .int p3), (4, .ref p4), (5, .int p5)], [.int (20 : Int32), .ref p1])) zq_127 zo_127 (by with_unfolding_all rfl) ?_
        replace hf := zf_b2e hf
        obtain ⟨v5, h6, hv, hf⟩ := hf
        refine zv_c zq_127 zo_127 rfl rfl rfl rfl rfl rfl (t_f_ColumnVaultLaw_draw _ _ _ _ _ hv) ?_
        refine zv_p (k := 1) (f' := (89, [(0, .ref p0), (1, .ref p1), (2, .int p2), (3, .int p3), (4, .ref p4), (5, .int p5)], [.int v5])) zq_127 zo_127 (by with_unfolding_all rfl) ?_
        refine zv_pick (lv' := [(0, .ref p0), (1, .ref p1), (2, .int p2), (3, .int p3)]) [0, 1, 2, 3] rfl rfl ?_
        exact t_f_ColumnVaultLaw_draws_89 _ _ _ _ _ _ _ _ hf
    · refine zv_brF (off := 55) (tt := 66) (r := []) zq_127 zo_127 hc rfl rfl rfl ?_
      refine zv_p (k := 3) (f' := (20, [(0, .ref p0), (1, .ref p1), (2, .int p2), (3, .int p3), (4, .ref p4), (5, .int p5)], [.int p5, .int p5, .ref p4])) zq_127 zo_127 (by with_unfolding_all rfl) ?_
      replace hf := zf_ite hf
      obtain ⟨hc, hf⟩ | ⟨hc, hf⟩ := hf
      · refine zv_brT (off := 7) (tt := 27) (r := [.int p5, .ref p4]) zq_127 zo_127 hc rfl rfl rfl ?_
        refine zv_p (k := 2) (f' := (29, [(0, .ref p0), (1, .ref p1), (2, .int p2), (3, .int p3), (4, .ref p4), (5, .int p5)], [.int (2 : Int32), .ref p1, .int p5, .ref p4])) zq_127 zo_127 (by with_unfolding_all rfl) ?_
        replace hf := zf_b2e hf
        obtain ⟨v7, h8, hv, hf⟩ := hf
        refine zv_c zq_127 zo_127 rfl rfl rfl rfl rfl rfl (t_f_ColumnVaultLaw_draw _ _ _ _ _ hv) ?_
        refine zv_pick (lv' := [(0, .ref p0), (1, .ref p1), (2, .int p2), (3, .int p3), (4, .ref p4), (5, .int p5)]) [0, 1, 2, 3, 4, 5] rfl rfl ?_
        exact t_f_ColumnVaultLaw_draws_32 ih _ _ _ _ _ _ _ _ _ _ _ _ hf
      · refine zv_brF (off := 7) (tt := 27) (r := [.int p5, .ref p4]) zq_127 zo_127 hc rfl rfl rfl ?_
        refine zv_p (k := 2) (f' := (32, [(0, .ref p0), (1, .ref p1), (2, .int p2), (3, .int p3), (4, .ref p4), (5, .int p5)], [.int (0 : Int32), .int p5, .ref p4])) zq_127 zo_127 (by with_unfolding_all rfl) ?_
        refine zv_pick (lv' := [(0, .ref p0), (1, .ref p1), (2, .int p2), (3, .int p3), (4, .ref p4), (5, .int p5)]) [0, 1, 2, 3, 4, 5] rfl rfl ?_
        exact t_f_ColumnVaultLaw_draws_32 ih _ _ _ _ _ _ _ _ _ _ _ _ hf
set_option maxHeartbeats 1000000 in
def f_ColumnVaultLaw_draws (p0 : Nat) (p1 : Nat) (p2 : Int32) (p3 : Int32) (h : zx_H) : Option ((Unit ⊕ Nat) × zx_H) :=
  zf_b2 (zf_newa .int 1 p3 h) fun q1 h2 =>
  f_ColumnVaultLaw_draws_8 zF p0 p1 p2 p3 q1 (0 : Int32) h2
set_option maxHeartbeats 4000000 in
set_option maxRecDepth 400000 in
theorem t_f_ColumnVaultLaw_draws {sc : (Nat × (Nat → Int32)) × Bool} {d : Nat} (p0 : Nat) (p1 : Nat) (p2 : Int32) (p3 : Int32) (h : zx_H) (r : (Unit ⊕ Nat)) (h' : zx_H) (hf : f_ColumnVaultLaw_draws p0 p1 p2 p3 h = some (r, h')) : zx_T sc (d + 8) 127 (0, [(0, .ref p0), (1, .ref p1), (2, .int p2), (3, .int p3)], []) h (zf_oVx r) h' := by
  unfold f_ColumnVaultLaw_draws at hf
  refine zv_p (k := 1) (f' := (1, [(0, .ref p0), (1, .ref p1), (2, .int p2), (3, .int p3)], [.int p3])) zq_127 zo_127 (by with_unfolding_all rfl) ?_
  replace hf := zf_b2e hf
  obtain ⟨q1, h2, hv, hf⟩ := hf
  refine zv_newa zq_127 zo_127 rfl rfl hv ?_
  refine zv_p (k := 3) (f' := (8, [(5, .int (0 : Int32)), (4, .ref q1), (0, .ref p0), (1, .ref p1), (2, .int p2), (3, .int p3)], [])) zq_127 zo_127 (by with_unfolding_all rfl) ?_
  refine zv_pick (lv' := [(0, .ref p0), (1, .ref p1), (2, .int p2), (3, .int p3), (4, .ref q1), (5, .int (0 : Int32))]) [0, 1, 2, 3, 4, 5] rfl rfl ?_
  exact t_f_ColumnVaultLaw_draws_8 zF _ _ _ _ _ _ _ _ _ hf
/-! ColumnVaultLaw.order (LColumnVault;I)arr I -/
noncomputable def zI_197 : zd_T := [[(0, .aload_n 0, 1), (1, .iload_n 1, 1), (2, .iconst 0, 1), (3, .invokevirtual 147, 3), (6, .newarray .int, 2), (8, .astore_n 2, 1), (9, .iconst 0, 1), (10, .istore_n 3, 1), (11, .iload_n 3, 1), (12, .aload_n 2, 1), (13, .arraylength, 1), (14, .if_icmp .ge 18, 3), (17, .aload_n 2, 1), (18, .iload_n 3, 1), (19, .aload_n 0, 1), (20, .iload_n 1, 1), (21, .iload_n 3, 1), (22, .invokevirtual 98, 3), (25, .iastore, 1), (26, .iinc 3 1, 3), (29, .goto (-18), 3)], [(32, .aload_n 2, 1), (33, .areturn, 1)]]
theorem zo_197 : zd_of 197 = some zI_197 := rfl
set_option maxRecDepth 100000 in
theorem zq_197 : zt_m[197]? = some (⟨"ColumnVaultLaw", "order", "(LColumnVault;I)[I"⟩, method_12_code, 4, some (.array (.int)), [], 17, 2, 0, 1, 99999, 0) := rfl
set_option maxHeartbeats 1000000 in
def f_ColumnVaultLaw_order_11 : Nat → Nat → Int32 → Nat → Int32 → zx_H → Option ((Nat ⊕ Nat) × zx_H)
  | 0, _, _, _, _, _ => none
  | n + 1, p0, p1, p2, p3, h =>
    zf_b (zf_len p2 h) fun v1 =>
    if v1 ≤ p3 then
      some (.inl p2, h)
    else
      zf_b (zf_is 12 p0 h) fun _ =>
      zf_b3 (f_ColumnVault_rowAt p0 p1 p3 h) fun v2 h3 =>
      zf_b (zf_stI p2 p3 v2 h3) fun h5 =>
      (f_ColumnVaultLaw_order_11 n) p0 p1 p2 (p3 + (1 : Int32)) h5
set_option maxHeartbeats 4000000 in
set_option maxRecDepth 400000 in
theorem t_f_ColumnVaultLaw_order_11 {sc : (Nat × (Nat → Int32)) × Bool} {d : Nat} : ∀ (n : Nat) (p0 : Nat) (p1 : Int32) (p2 : Nat) (p3 : Int32) (h : zx_H) (r : (Nat ⊕ Nat)) (h' : zx_H), f_ColumnVaultLaw_order_11 n p0 p1 p2 p3 h = some (r, h') → zx_T sc (d + 5) 197 (11, [(0, .ref p0), (1, .int p1), (2, .ref p2), (3, .int p3)], []) h (zf_oAx r) h' := by
  intro n
  induction n with
  | zero => intro p0 p1 p2 p3 h r h' hf; cases hf
  | succ n ih =>
    intro p0 p1 p2 p3 h r h' hf
    unfold f_ColumnVaultLaw_order_11 at hf
    refine zv_p (k := 2) (f' := (13, [(0, .ref p0), (1, .int p1), (2, .ref p2), (3, .int p3)], [.ref p2, .int p3])) zq_197 zo_197 (by with_unfolding_all rfl) ?_
    replace hf := zf_be hf
    obtain ⟨v1, hv, hf⟩ := hf
    refine zv_len zq_197 zo_197 rfl hv ?_
    replace hf := zf_ite hf
    obtain ⟨hc, hf⟩ | ⟨hc, hf⟩ := hf
    · refine zv_brT (off := 18) (tt := 32) (r := []) zq_197 zo_197 hc rfl rfl rfl ?_
      refine zv_p (k := 1) (f' := (33, [(0, .ref p0), (1, .int p1), (2, .ref p2), (3, .int p3)], [.ref p2])) zq_197 zo_197 (by with_unfolding_all rfl) ?_
      cases hf
      exact zv_r zq_197 zo_197 rfl rfl rfl rfl rfl
    · refine zv_brF (off := 18) (tt := 32) (r := []) zq_197 zo_197 hc rfl rfl rfl ?_
      refine zv_p (k := 5) (f' := (22, [(0, .ref p0), (1, .int p1), (2, .ref p2), (3, .int p3)], [.int p3, .int p1, .ref p0, .int p3, .ref p2])) zq_197 zo_197 (by with_unfolding_all rfl) ?_
      replace hf := zf_be hf
      obtain ⟨_, ho, hf⟩ := hf
      replace hf := zf_b3e hf
      obtain ⟨v2, h3, hv, hf⟩ | ⟨E4, h3, hv, hf⟩ := hf
      rotate_left
      · cases hf; exact zv_cx zq_197 zo_197 rfl rfl rfl rfl rfl (zv_cv rfl rfl rfl (zf_ise ho) rfl) (t_f_ColumnVault_rowAt _ _ _ _ _ _ hv) rfl
      refine zv_c zq_197 zo_197 rfl rfl rfl rfl rfl (zv_cv rfl rfl rfl (zf_ise ho) rfl) (t_f_ColumnVault_rowAt _ _ _ _ _ _ hv) ?_
      replace hf := zf_be hf
      obtain ⟨h5, hv, hf⟩ := hf
      refine zv_stI zq_197 zo_197 rfl hv ?_
      refine zv_p (k := 2) (f' := (11, [(3, .int (p3 + (1 : Int32))), (0, .ref p0), (1, .int p1), (2, .ref p2)], [])) zq_197 zo_197 (by with_unfolding_all rfl) ?_
      refine zv_pick (lv' := [(0, .ref p0), (1, .int p1), (2, .ref p2), (3, .int (p3 + (1 : Int32)))]) [0, 1, 2, 3] rfl rfl ?_
      exact ih _ _ _ _ _ _ _ hf
set_option maxHeartbeats 1000000 in
def f_ColumnVaultLaw_order (p0 : Nat) (p1 : Int32) (h : zx_H) : Option ((Nat ⊕ Nat) × zx_H) :=
  zf_b (zf_is 12 p0 h) fun _ =>
  zf_b3 (f_ColumnVault_size p0 p1 (0 : Int32) h) fun v1 h2 =>
  zf_b2 (zf_newa .int 1 v1 h2) fun q4 h5 =>
  f_ColumnVaultLaw_order_11 zF p0 p1 q4 (0 : Int32) h5
set_option maxHeartbeats 4000000 in
set_option maxRecDepth 400000 in
theorem t_f_ColumnVaultLaw_order {sc : (Nat × (Nat → Int32)) × Bool} {d : Nat} (p0 : Nat) (p1 : Int32) (h : zx_H) (r : (Nat ⊕ Nat)) (h' : zx_H) (hf : f_ColumnVaultLaw_order p0 p1 h = some (r, h')) : zx_T sc (d + 5) 197 (0, [(0, .ref p0), (1, .int p1)], []) h (zf_oAx r) h' := by
  unfold f_ColumnVaultLaw_order at hf
  refine zv_p (k := 3) (f' := (3, [(0, .ref p0), (1, .int p1)], [.int (0 : Int32), .int p1, .ref p0])) zq_197 zo_197 (by with_unfolding_all rfl) ?_
  replace hf := zf_be hf
  obtain ⟨_, ho, hf⟩ := hf
  replace hf := zf_b3e hf
  obtain ⟨v1, h2, hv, hf⟩ | ⟨E3, h2, hv, hf⟩ := hf
  rotate_left
  · cases hf; exact zv_cx zq_197 zo_197 rfl rfl rfl rfl rfl (zv_cv rfl rfl rfl (zf_ise ho) rfl) (t_f_ColumnVault_size _ _ _ _ _ _ hv) rfl
  refine zv_c zq_197 zo_197 rfl rfl rfl rfl rfl (zv_cv rfl rfl rfl (zf_ise ho) rfl) (t_f_ColumnVault_size _ _ _ _ _ _ hv) ?_
  replace hf := zf_b2e hf
  obtain ⟨q4, h5, hv, hf⟩ := hf
  refine zv_newa zq_197 zo_197 rfl rfl hv ?_
  refine zv_p (k := 3) (f' := (11, [(3, .int (0 : Int32)), (2, .ref q4), (0, .ref p0), (1, .int p1)], [])) zq_197 zo_197 (by with_unfolding_all rfl) ?_
  refine zv_pick (lv' := [(0, .ref p0), (1, .int p1), (2, .ref q4), (3, .int (0 : Int32))]) [0, 1, 2, 3] rfl rfl ?_
  exact t_f_ColumnVaultLaw_order_11 zF _ _ _ _ _ _ _ hf
/-! ColumnVault.isChosen (II)Z -/
noncomputable def zI_199 : zd_T := [[(0, .aload_n 0, 1), (1, .iload_n 1, 1), (2, .invokevirtual 53, 3), (5, .astore_n 3, 1), (6, .aload_n 3, 1), (7, .iload_n 2, 1), (8, .invokestatic 108, 3), (11, .aload_n 3, 1), (12, .getfield 133, 3), (15, .iload_n 2, 1), (16, .invokestatic 178, 3), (19, .ireturn, 1)]]
theorem zo_199 : zd_of 199 = some zI_199 := rfl
set_option maxRecDepth 100000 in
theorem zq_199 : zt_m[199]? = some (⟨"ColumnVault", "isChosen", "(II)Z"⟩, prog_1_method_15_code, 4, some (.boolean), [], 12, 2, 0, 0, 0, 0) := rfl
set_option maxHeartbeats 1000000 in
def f_ColumnVault_isChosen (p0 : Nat) (p1 : Int32) (p2 : Int32) (h : zx_H) : Option ((Int32 ⊕ Nat) × zx_H) :=
  zf_b (zf_is 12 p0 h) fun _ =>
  zf_b3 (f_ColumnVault_sheetOf p0 p1 h) fun v1 h2 =>
  zf_b3 (f_ColumnVault_requireRow v1 p2 h2) fun _ h5 =>
  zf_b (zf_J 10 5 v1 h5) fun v7 =>
  zf_b2 (f_ColumnVault_holdsRow v7 p2 h5) fun v8 h9 =>
  if narrow .boolean (.int v8) = .int v8 then some (.inl v8, h9) else none
set_option maxHeartbeats 4000000 in
set_option maxRecDepth 400000 in
theorem t_f_ColumnVault_isChosen {sc : (Nat × (Nat → Int32)) × Bool} {d : Nat} (p0 : Nat) (p1 : Int32) (p2 : Int32) (h : zx_H) (r : (Int32 ⊕ Nat)) (h' : zx_H) (hf : f_ColumnVault_isChosen p0 p1 p2 h = some (r, h')) : zx_T sc (d + 2) 199 (0, [(0, .ref p0), (1, .int p1), (2, .int p2)], []) h (zf_oIx r) h' := by
  unfold f_ColumnVault_isChosen at hf
  refine zv_p (k := 2) (f' := (2, [(0, .ref p0), (1, .int p1), (2, .int p2)], [.int p1, .ref p0])) zq_199 zo_199 (by with_unfolding_all rfl) ?_
  replace hf := zf_be hf
  obtain ⟨_, ho, hf⟩ := hf
  replace hf := zf_b3e hf
  obtain ⟨v1, h2, hv, hf⟩ | ⟨E3, h2, hv, hf⟩ := hf
  rotate_left
  · cases hf; exact zv_cx zq_199 zo_199 rfl rfl rfl rfl rfl (zv_cv rfl rfl rfl (zf_ise ho) rfl) (t_f_ColumnVault_sheetOf _ _ _ _ _ hv) rfl
  refine zv_c zq_199 zo_199 rfl rfl rfl rfl rfl (zv_cv rfl rfl rfl (zf_ise ho) rfl) (t_f_ColumnVault_sheetOf _ _ _ _ _ hv) ?_
  refine zv_p (k := 3) (f' := (8, [(3, .ref v1), (0, .ref p0), (1, .int p1), (2, .int p2)], [.int p2, .ref v1])) zq_199 zo_199 (by with_unfolding_all rfl) ?_
  replace hf := zf_b3e hf
  obtain ⟨v4, h5, hv, hf⟩ | ⟨E6, h5, hv, hf⟩ := hf
  rotate_left
  · cases hf; exact zv_cx zq_199 zo_199 rfl rfl rfl rfl rfl rfl (t_f_ColumnVault_requireRow _ _ _ _ _ hv) rfl
  refine zv_c zq_199 zo_199 rfl rfl rfl rfl rfl rfl (t_f_ColumnVault_requireRow _ _ _ _ _ hv) ?_
  refine zv_p (k := 1) (f' := (12, [(3, .ref v1), (0, .ref p0), (1, .int p1), (2, .int p2)], [.ref v1])) zq_199 zo_199 (by with_unfolding_all rfl) ?_
  replace hf := zf_be hf
  obtain ⟨v7, hv, hf⟩ := hf
  refine zv_gf zq_199 zo_199 rfl rfl rfl (zf_Je hv) ?_
  refine zv_p (k := 1) (f' := (16, [(3, .ref v1), (0, .ref p0), (1, .int p1), (2, .int p2)], [.int p2, .long v7])) zq_199 zo_199 (by with_unfolding_all rfl) ?_
  replace hf := zf_b2e hf
  obtain ⟨v8, h9, hv, hf⟩ := hf
  refine zv_c zq_199 zo_199 rfl rfl rfl rfl rfl rfl (t_f_ColumnVault_holdsRow _ _ _ _ _ hv) ?_
  replace hf := zf_ite hf
  obtain ⟨hc, hf⟩ | ⟨hc, hf⟩ := hf
  · cases hf; exact zv_rn zq_199 zo_199 rfl hc
  · cases hf
/-! ColumnVaultLaw.choice (LColumnVault;I)arr Z -/
noncomputable def zI_198 : zd_T := [[(0, .aload_n 0, 1), (1, .iload_n 1, 1), (2, .iconst 0, 1), (3, .invokevirtual 147, 3), (6, .newarray .boolean, 2), (8, .astore_n 2, 1), (9, .iconst 0, 1), (10, .istore_n 3, 1), (11, .iload_n 3, 1), (12, .aload_n 2, 1), (13, .arraylength, 1), (14, .if_icmp .ge 18, 3), (17, .aload_n 2, 1), (18, .iload_n 3, 1), (19, .aload_n 0, 1), (20, .iload_n 1, 1), (21, .iload_n 3, 1), (22, .invokevirtual 178, 3), (25, .bastore, 1), (26, .iinc 3 1, 3), (29, .goto (-18), 3)], [(32, .aload_n 2, 1), (33, .areturn, 1)]]
theorem zo_198 : zd_of 198 = some zI_198 := rfl
set_option maxRecDepth 100000 in
theorem zq_198 : zt_m[198]? = some (⟨"ColumnVaultLaw", "choice", "(LColumnVault;I)[Z"⟩, method_13_code, 4, some (.array (.boolean)), [], 17, 2, 0, 1, 99999, 0) := rfl
set_option maxHeartbeats 1000000 in
def f_ColumnVaultLaw_choice_11 : Nat → Nat → Int32 → Nat → Int32 → zx_H → Option ((Nat ⊕ Nat) × zx_H)
  | 0, _, _, _, _, _ => none
  | n + 1, p0, p1, p2, p3, h =>
    zf_b (zf_len p2 h) fun v1 =>
    if v1 ≤ p3 then
      some (.inl p2, h)
    else
      zf_b (zf_is 12 p0 h) fun _ =>
      zf_b3 (f_ColumnVault_isChosen p0 p1 p3 h) fun v2 h3 =>
      zf_b (zf_stB p2 p3 v2 h3) fun h5 =>
      (f_ColumnVaultLaw_choice_11 n) p0 p1 p2 (p3 + (1 : Int32)) h5
set_option maxHeartbeats 4000000 in
set_option maxRecDepth 400000 in
theorem t_f_ColumnVaultLaw_choice_11 {sc : (Nat × (Nat → Int32)) × Bool} {d : Nat} : ∀ (n : Nat) (p0 : Nat) (p1 : Int32) (p2 : Nat) (p3 : Int32) (h : zx_H) (r : (Nat ⊕ Nat)) (h' : zx_H), f_ColumnVaultLaw_choice_11 n p0 p1 p2 p3 h = some (r, h') → zx_T sc (d + 5) 198 (11, [(0, .ref p0), (1, .int p1), (2, .ref p2), (3, .int p3)], []) h (zf_oAx r) h' := by
  intro n
  induction n with
  | zero => intro p0 p1 p2 p3 h r h' hf; cases hf
  | succ n ih =>
    intro p0 p1 p2 p3 h r h' hf
    unfold f_ColumnVaultLaw_choice_11 at hf
    refine zv_p (k := 2) (f' := (13, [(0, .ref p0), (1, .int p1), (2, .ref p2), (3, .int p3)], [.ref p2, .int p3])) zq_198 zo_198 (by with_unfolding_all rfl) ?_
    replace hf := zf_be hf
    obtain ⟨v1, hv, hf⟩ := hf
    refine zv_len zq_198 zo_198 rfl hv ?_
    replace hf := zf_ite hf
    obtain ⟨hc, hf⟩ | ⟨hc, hf⟩ := hf
    · refine zv_brT (off := 18) (tt := 32) (r := []) zq_198 zo_198 hc rfl rfl rfl ?_
      refine zv_p (k := 1) (f' := (33, [(0, .ref p0), (1, .int p1), (2, .ref p2), (3, .int p3)], [.ref p2])) zq_198 zo_198 (by with_unfolding_all rfl) ?_
      cases hf
      exact zv_r zq_198 zo_198 rfl rfl rfl rfl rfl
    · refine zv_brF (off := 18) (tt := 32) (r := []) zq_198 zo_198 hc rfl rfl rfl ?_
      refine zv_p (k := 5) (f' := (22, [(0, .ref p0), (1, .int p1), (2, .ref p2), (3, .int p3)], [.int p3, .int p1, .ref p0, .int p3, .ref p2])) zq_198 zo_198 (by with_unfolding_all rfl) ?_
      replace hf := zf_be hf
      obtain ⟨_, ho, hf⟩ := hf
      replace hf := zf_b3e hf
      obtain ⟨v2, h3, hv, hf⟩ | ⟨E4, h3, hv, hf⟩ := hf
      rotate_left
      · cases hf; exact zv_cx zq_198 zo_198 rfl rfl rfl rfl rfl (zv_cv rfl rfl rfl (zf_ise ho) rfl) (t_f_ColumnVault_isChosen _ _ _ _ _ _ hv) rfl
      refine zv_c zq_198 zo_198 rfl rfl rfl rfl rfl (zv_cv rfl rfl rfl (zf_ise ho) rfl) (t_f_ColumnVault_isChosen _ _ _ _ _ _ hv) ?_
      replace hf := zf_be hf
      obtain ⟨h5, hv, hf⟩ := hf
      refine zv_stB zq_198 zo_198 rfl hv ?_
      refine zv_p (k := 2) (f' := (11, [(3, .int (p3 + (1 : Int32))), (0, .ref p0), (1, .int p1), (2, .ref p2)], [])) zq_198 zo_198 (by with_unfolding_all rfl) ?_
      refine zv_pick (lv' := [(0, .ref p0), (1, .int p1), (2, .ref p2), (3, .int (p3 + (1 : Int32)))]) [0, 1, 2, 3] rfl rfl ?_
      exact ih _ _ _ _ _ _ _ hf
set_option maxHeartbeats 1000000 in
def f_ColumnVaultLaw_choice (p0 : Nat) (p1 : Int32) (h : zx_H) : Option ((Nat ⊕ Nat) × zx_H) :=
  zf_b (zf_is 12 p0 h) fun _ =>
  zf_b3 (f_ColumnVault_size p0 p1 (0 : Int32) h) fun v1 h2 =>
  zf_b2 (zf_newa .boolean 5 v1 h2) fun q4 h5 =>
  f_ColumnVaultLaw_choice_11 zF p0 p1 q4 (0 : Int32) h5
set_option maxHeartbeats 4000000 in
set_option maxRecDepth 400000 in
theorem t_f_ColumnVaultLaw_choice {sc : (Nat × (Nat → Int32)) × Bool} {d : Nat} (p0 : Nat) (p1 : Int32) (h : zx_H) (r : (Nat ⊕ Nat)) (h' : zx_H) (hf : f_ColumnVaultLaw_choice p0 p1 h = some (r, h')) : zx_T sc (d + 5) 198 (0, [(0, .ref p0), (1, .int p1)], []) h (zf_oAx r) h' := by
  unfold f_ColumnVaultLaw_choice at hf
  refine zv_p (k := 3) (f' := (3, [(0, .ref p0), (1, .int p1)], [.int (0 : Int32), .int p1, .ref p0])) zq_198 zo_198 (by with_unfolding_all rfl) ?_
  replace hf := zf_be hf
  obtain ⟨_, ho, hf⟩ := hf
  replace hf := zf_b3e hf
  obtain ⟨v1, h2, hv, hf⟩ | ⟨E3, h2, hv, hf⟩ := hf
  rotate_left
  · cases hf; exact zv_cx zq_198 zo_198 rfl rfl rfl rfl rfl (zv_cv rfl rfl rfl (zf_ise ho) rfl) (t_f_ColumnVault_size _ _ _ _ _ _ hv) rfl
  refine zv_c zq_198 zo_198 rfl rfl rfl rfl rfl (zv_cv rfl rfl rfl (zf_ise ho) rfl) (t_f_ColumnVault_size _ _ _ _ _ _ hv) ?_
  replace hf := zf_b2e hf
  obtain ⟨q4, h5, hv, hf⟩ := hf
  refine zv_newa zq_198 zo_198 rfl rfl hv ?_
  refine zv_p (k := 3) (f' := (11, [(3, .int (0 : Int32)), (2, .ref q4), (0, .ref p0), (1, .int p1)], [])) zq_198 zo_198 (by with_unfolding_all rfl) ?_
  refine zv_pick (lv' := [(0, .ref p0), (1, .int p1), (2, .ref q4), (3, .int (0 : Int32))]) [0, 1, 2, 3] rfl rfl ?_
  exact t_f_ColumnVaultLaw_choice_11 zF _ _ _ _ _ _ _ hf
/-! ColumnVaultLaw.rows (LColumnVault;I)arr arr J -/
noncomputable def zI_200 : zd_T := [[(0, .aload_n 0, 1), (1, .iload_n 1, 1), (2, .iconst 0, 1), (3, .invokevirtual 147, 3), (6, .aload_n 0, 1), (7, .iload_n 1, 1), (8, .iconst 1, 1), (9, .invokevirtual 147, 3), (12, .multianewarray 176 2, 4), (16, .astore_n 2, 1), (17, .iconst 0, 1), (18, .istore_n 3, 1), (19, .iload_n 3, 1), (20, .aload_n 2, 1), (21, .arraylength, 1), (22, .if_icmp .ge 41, 3), (25, .iconst 0, 1), (26, .istore 4, 2), (28, .iload 4, 2), (30, .aload_n 2, 1), (31, .iload_n 3, 1)], [(32, .aaload, 1), (33, .arraylength, 1), (34, .if_icmp .ge 23, 3), (37, .aload_n 2, 1), (38, .iload_n 3, 1), (39, .aaload, 1), (40, .iload 4, 2), (42, .aload_n 0, 1), (43, .iload_n 1, 1), (44, .iload_n 3, 1), (45, .iload 4, 2), (47, .invokevirtual 91, 3), (50, .lastore, 1), (51, .iinc 4 1, 3), (54, .goto (-26), 3), (57, .iinc 3 1, 3), (60, .goto (-41), 3), (63, .aload_n 2, 1)], [(64, .areturn, 1)]]
theorem zo_200 : zd_of 200 = some zI_200 := rfl
set_option maxRecDepth 100000 in
theorem zq_200 : zt_m[200]? = some (⟨"ColumnVaultLaw", "rows", "(LColumnVault;I)[[J"⟩, method_11_code, 5, some (.array (.array (.long))), [], 17, 2, 0, 1, 99999, 0) := rfl
set_option maxHeartbeats 1000000 in
def f_ColumnVaultLaw_rows_28 (k19 : Nat → Int32 → Nat → Int32 → zx_H → Option ((Nat ⊕ Nat) × zx_H)) : Nat → Nat → Int32 → Nat → Int32 → Int32 → zx_H → Option ((Nat ⊕ Nat) × zx_H)
  | 0, _, _, _, _, _, _ => none
  | n + 1, p0, p1, p2, p3, p4, h =>
    zf_b (zf_ldA p2 p3 h) fun v1 =>
    zf_b (zf_len v1 h) fun v2 =>
    if v2 ≤ p4 then
      k19 p0 p1 p2 (p3 + (1 : Int32)) h
    else
      zf_b (zf_ldA p2 p3 h) fun v3 =>
      zf_b (zf_is 12 p0 h) fun _ =>
      zf_b3 (f_ColumnVault_get p0 p1 p3 p4 h) fun v4 h5 =>
      zf_b (zf_stJ v3 p4 v4 h5) fun h7 =>
      (f_ColumnVaultLaw_rows_28 k19 n) p0 p1 p2 p3 (p4 + (1 : Int32)) h7
set_option maxHeartbeats 4000000 in
set_option maxRecDepth 400000 in
theorem t_f_ColumnVaultLaw_rows_28 {sc : (Nat × (Nat → Int32)) × Bool} {d : Nat} {k19 : Nat → Int32 → Nat → Int32 → zx_H → Option ((Nat ⊕ Nat) × zx_H)} (hk19 : ∀ (a0 : Nat) (a1 : Int32) (a2 : Nat) (a3 : Int32) (h : zx_H) (r : (Nat ⊕ Nat)) (h' : zx_H), k19 a0 a1 a2 a3 h = some (r, h') → zx_T sc (d + 5) 200 (19, [(0, .ref a0), (1, .int a1), (2, .ref a2), (3, .int a3)], []) h (zf_oAx r) h') : ∀ (n : Nat) (p0 : Nat) (p1 : Int32) (p2 : Nat) (p3 : Int32) (p4 : Int32) (h : zx_H) (r : (Nat ⊕ Nat)) (h' : zx_H), f_ColumnVaultLaw_rows_28 k19 n p0 p1 p2 p3 p4 h = some (r, h') → zx_T sc (d + 5) 200 (28, [(0, .ref p0), (1, .int p1), (2, .ref p2), (3, .int p3), (4, .int p4)], []) h (zf_oAx r) h' := by
  intro n
  induction n with
  | zero => intro p0 p1 p2 p3 p4 h r h' hf; cases hf
  | succ n ih =>
    intro p0 p1 p2 p3 p4 h r h' hf
    unfold f_ColumnVaultLaw_rows_28 at hf
    refine zv_p (k := 3) (f' := (32, [(0, .ref p0), (1, .int p1), (2, .ref p2), (3, .int p3), (4, .int p4)], [.int p3, .ref p2, .int p4])) zq_200 zo_200 (by with_unfolding_all rfl) ?_
    replace hf := zf_be hf
    obtain ⟨v1, hv, hf⟩ := hf
    refine zv_ldA zq_200 zo_200 rfl hv ?_
    replace hf := zf_be hf
    obtain ⟨v2, hv, hf⟩ := hf
    refine zv_len zq_200 zo_200 rfl hv ?_
    replace hf := zf_ite hf
    obtain ⟨hc, hf⟩ | ⟨hc, hf⟩ := hf
    · refine zv_brT (off := 23) (tt := 57) (r := []) zq_200 zo_200 hc rfl rfl rfl ?_
      refine zv_p (k := 2) (f' := (19, [(3, .int (p3 + (1 : Int32))), (0, .ref p0), (1, .int p1), (2, .ref p2), (4, .int p4)], [])) zq_200 zo_200 (by with_unfolding_all rfl) ?_
      refine zv_pick (lv' := [(0, .ref p0), (1, .int p1), (2, .ref p2), (3, .int (p3 + (1 : Int32)))]) [0, 1, 2, 3] rfl rfl ?_
      exact hk19 _ _ _ _ _ _ _ hf
    · refine zv_brF (off := 23) (tt := 57) (r := []) zq_200 zo_200 hc rfl rfl rfl ?_
      refine zv_p (k := 2) (f' := (39, [(0, .ref p0), (1, .int p1), (2, .ref p2), (3, .int p3), (4, .int p4)], [.int p3, .ref p2])) zq_200 zo_200 (by with_unfolding_all rfl) ?_
      replace hf := zf_be hf
      obtain ⟨v3, hv, hf⟩ := hf
      refine zv_ldA zq_200 zo_200 rfl hv ?_
      refine zv_p (k := 5) (f' := (47, [(0, .ref p0), (1, .int p1), (2, .ref p2), (3, .int p3), (4, .int p4)], [.int p4, .int p3, .int p1, .ref p0, .int p4, .ref v3])) zq_200 zo_200 (by with_unfolding_all rfl) ?_
      replace hf := zf_be hf
      obtain ⟨_, ho, hf⟩ := hf
      replace hf := zf_b3e hf
      obtain ⟨v4, h5, hv, hf⟩ | ⟨E6, h5, hv, hf⟩ := hf
      rotate_left
      · cases hf; exact zv_cx zq_200 zo_200 rfl rfl rfl rfl rfl (zv_cv rfl rfl rfl (zf_ise ho) rfl) (t_f_ColumnVault_get _ _ _ _ _ _ _ hv) rfl
      refine zv_c zq_200 zo_200 rfl rfl rfl rfl rfl (zv_cv rfl rfl rfl (zf_ise ho) rfl) (t_f_ColumnVault_get _ _ _ _ _ _ _ hv) ?_
      replace hf := zf_be hf
      obtain ⟨h7, hv, hf⟩ := hf
      refine zv_stJ zq_200 zo_200 rfl hv ?_
      refine zv_p (k := 2) (f' := (28, [(4, .int (p4 + (1 : Int32))), (0, .ref p0), (1, .int p1), (2, .ref p2), (3, .int p3)], [])) zq_200 zo_200 (by with_unfolding_all rfl) ?_
      refine zv_pick (lv' := [(0, .ref p0), (1, .int p1), (2, .ref p2), (3, .int p3), (4, .int (p4 + (1 : Int32)))]) [0, 1, 2, 3, 4] rfl rfl ?_
      exact ih _ _ _ _ _ _ _ _ hf
set_option maxHeartbeats 1000000 in
def f_ColumnVaultLaw_rows_19 : Nat → Nat → Int32 → Nat → Int32 → zx_H → Option ((Nat ⊕ Nat) × zx_H)
  | 0, _, _, _, _, _ => none
  | n + 1, p0, p1, p2, p3, h =>
    zf_b (zf_len p2 h) fun v1 =>
    if v1 ≤ p3 then
      some (.inl p2, h)
    else
      f_ColumnVaultLaw_rows_28 (f_ColumnVaultLaw_rows_19 n) zF p0 p1 p2 p3 (0 : Int32) h
set_option maxHeartbeats 4000000 in
set_option maxRecDepth 400000 in
theorem t_f_ColumnVaultLaw_rows_19 {sc : (Nat × (Nat → Int32)) × Bool} {d : Nat} : ∀ (n : Nat) (p0 : Nat) (p1 : Int32) (p2 : Nat) (p3 : Int32) (h : zx_H) (r : (Nat ⊕ Nat)) (h' : zx_H), f_ColumnVaultLaw_rows_19 n p0 p1 p2 p3 h = some (r, h') → zx_T sc (d + 5) 200 (19, [(0, .ref p0), (1, .int p1), (2, .ref p2), (3, .int p3)], []) h (zf_oAx r) h' := by
  intro n
  induction n with
  | zero => intro p0 p1 p2 p3 h r h' hf; cases hf
  | succ n ih =>
    intro p0 p1 p2 p3 h r h' hf
    unfold f_ColumnVaultLaw_rows_19 at hf
    refine zv_p (k := 2) (f' := (21, [(0, .ref p0), (1, .int p1), (2, .ref p2), (3, .int p3)], [.ref p2, .int p3])) zq_200 zo_200 (by with_unfolding_all rfl) ?_
    replace hf := zf_be hf
    obtain ⟨v1, hv, hf⟩ := hf
    refine zv_len zq_200 zo_200 rfl hv ?_
    replace hf := zf_ite hf
    obtain ⟨hc, hf⟩ | ⟨hc, hf⟩ := hf
    · refine zv_brT (off := 41) (tt := 63) (r := []) zq_200 zo_200 hc rfl rfl rfl ?_
      refine zv_p (k := 1) (f' := (64, [(0, .ref p0), (1, .int p1), (2, .ref p2), (3, .int p3)], [.ref p2])) zq_200 zo_200 (by with_unfolding_all rfl) ?_
      cases hf
      exact zv_r zq_200 zo_200 rfl rfl rfl rfl rfl
    · refine zv_brF (off := 41) (tt := 63) (r := []) zq_200 zo_200 hc rfl rfl rfl ?_
      refine zv_p (k := 2) (f' := (28, [(4, .int (0 : Int32)), (0, .ref p0), (1, .int p1), (2, .ref p2), (3, .int p3)], [])) zq_200 zo_200 (by with_unfolding_all rfl) ?_
      refine zv_pick (lv' := [(0, .ref p0), (1, .int p1), (2, .ref p2), (3, .int p3), (4, .int (0 : Int32))]) [0, 1, 2, 3, 4] rfl rfl ?_
      exact t_f_ColumnVaultLaw_rows_28 ih zF _ _ _ _ _ _ _ _ hf
set_option maxHeartbeats 1000000 in
def f_ColumnVaultLaw_rows (p0 : Nat) (p1 : Int32) (h : zx_H) : Option ((Nat ⊕ Nat) × zx_H) :=
  zf_b (zf_is 12 p0 h) fun _ =>
  zf_b3 (f_ColumnVault_size p0 p1 (0 : Int32) h) fun v1 h2 =>
  zf_b (zf_is 12 p0 h2) fun _ =>
  zf_b3 (f_ColumnVault_size p0 p1 (1 : Int32) h2) fun v4 h5 =>
  zf_b2 (zf_multi .long 4 2 v1 v4 h5) fun q7 h8 =>
  f_ColumnVaultLaw_rows_19 zF p0 p1 q7 (0 : Int32) h8
set_option maxHeartbeats 4000000 in
set_option maxRecDepth 400000 in
theorem t_f_ColumnVaultLaw_rows {sc : (Nat × (Nat → Int32)) × Bool} {d : Nat} (p0 : Nat) (p1 : Int32) (h : zx_H) (r : (Nat ⊕ Nat)) (h' : zx_H) (hf : f_ColumnVaultLaw_rows p0 p1 h = some (r, h')) : zx_T sc (d + 5) 200 (0, [(0, .ref p0), (1, .int p1)], []) h (zf_oAx r) h' := by
  unfold f_ColumnVaultLaw_rows at hf
  refine zv_p (k := 3) (f' := (3, [(0, .ref p0), (1, .int p1)], [.int (0 : Int32), .int p1, .ref p0])) zq_200 zo_200 (by with_unfolding_all rfl) ?_
  replace hf := zf_be hf
  obtain ⟨_, ho, hf⟩ := hf
  replace hf := zf_b3e hf
  obtain ⟨v1, h2, hv, hf⟩ | ⟨E3, h2, hv, hf⟩ := hf
  rotate_left
  · cases hf; exact zv_cx zq_200 zo_200 rfl rfl rfl rfl rfl (zv_cv rfl rfl rfl (zf_ise ho) rfl) (t_f_ColumnVault_size _ _ _ _ _ _ hv) rfl
  refine zv_c zq_200 zo_200 rfl rfl rfl rfl rfl (zv_cv rfl rfl rfl (zf_ise ho) rfl) (t_f_ColumnVault_size _ _ _ _ _ _ hv) ?_
  refine zv_p (k := 3) (f' := (9, [(0, .ref p0), (1, .int p1)], [.int (1 : Int32), .int p1, .ref p0, .int v1])) zq_200 zo_200 (by with_unfolding_all rfl) ?_
  replace hf := zf_be hf
  obtain ⟨_, ho, hf⟩ := hf
  replace hf := zf_b3e hf
  obtain ⟨v4, h5, hv, hf⟩ | ⟨E6, h5, hv, hf⟩ := hf
  rotate_left
  · cases hf; exact zv_cx zq_200 zo_200 rfl rfl rfl rfl rfl (zv_cv rfl rfl rfl (zf_ise ho) rfl) (t_f_ColumnVault_size _ _ _ _ _ _ hv) rfl
  refine zv_c zq_200 zo_200 rfl rfl rfl rfl rfl (zv_cv rfl rfl rfl (zf_ise ho) rfl) (t_f_ColumnVault_size _ _ _ _ _ _ hv) ?_
  replace hf := zf_b2e hf
  obtain ⟨q7, h8, hv, hf⟩ := hf
  refine zv_multi zq_200 zo_200 rfl rfl rfl rfl hv ?_
  refine zv_p (k := 3) (f' := (19, [(3, .int (0 : Int32)), (2, .ref q7), (0, .ref p0), (1, .int p1)], [])) zq_200 zo_200 (by with_unfolding_all rfl) ?_
  refine zv_pick (lv' := [(0, .ref p0), (1, .int p1), (2, .ref q7), (3, .int (0 : Int32))]) [0, 1, 2, 3] rfl rfl ?_
  exact t_f_ColumnVaultLaw_rows_19 zF _ _ _ _ _ _ _ hf
/-! ColumnVault$Sheet.placeInOrder (I)I -/
noncomputable def zI_202 : zd_T := [[(0, .iconst 0, 1), (1, .istore_n 2, 1), (2, .iload_n 2, 1), (3, .aload_n 0, 1), (4, .getfield 26, 3), (7, .if_icmp .ge 21, 3), (10, .aload_n 0, 1), (11, .getfield 19, 3), (14, .iload_n 2, 1), (15, .iaload, 1), (16, .iload_n 1, 1), (17, .if_icmp .ne 5, 3), (20, .iload_n 2, 1), (21, .ireturn, 1), (22, .iinc 2 1, 3), (25, .goto (-23), 3), (28, .iconst (-1), 1), (29, .ireturn, 1)]]
theorem zo_202 : zd_of 202 = some zI_202 := rfl
set_option maxRecDepth 100000 in
theorem zq_202 : zt_m[202]? = some (⟨"ColumnVault$Sheet", "placeInOrder", "(I)I"⟩, prog_10_method_16_code, 3, some (.int), [], 10, 1, 0, 0, 0, 0) := rfl
set_option maxHeartbeats 1000000 in
def f_Sheet_placeInOrder_2 : Nat → Nat → Int32 → Int32 → zx_H → Option (Int32 × zx_H)
  | 0, _, _, _, _ => none
  | n + 1, p0, p1, p2, h =>
    zf_b (zf_I 10 4 p0 h) fun v1 =>
    if v1 ≤ p2 then
      some ((-1 : Int32), h)
    else
      zf_b (zf_A 10 2 p0 h) fun v2 =>
      zf_b (zf_ldI v2 p2 h) fun v3 =>
      if ¬ v3 = p1 then
        (f_Sheet_placeInOrder_2 n) p0 p1 (p2 + (1 : Int32)) h
      else
        some (p2, h)
set_option maxHeartbeats 4000000 in
set_option maxRecDepth 400000 in
theorem t_f_Sheet_placeInOrder_2 {sc : (Nat × (Nat → Int32)) × Bool} {d : Nat} : ∀ (n : Nat) (p0 : Nat) (p1 : Int32) (p2 : Int32) (h : zx_H) (r : Int32) (h' : zx_H), f_Sheet_placeInOrder_2 n p0 p1 p2 h = some (r, h') → zx_T sc d 202 (2, [(0, .ref p0), (1, .int p1), (2, .int p2)], []) h (zf_oI r) h' := by
  intro n
  induction n with
  | zero => intro p0 p1 p2 h r h' hf; cases hf
  | succ n ih =>
    intro p0 p1 p2 h r h' hf
    unfold f_Sheet_placeInOrder_2 at hf
    refine zv_p (k := 2) (f' := (4, [(0, .ref p0), (1, .int p1), (2, .int p2)], [.ref p0, .int p2])) zq_202 zo_202 (by with_unfolding_all rfl) ?_
    replace hf := zf_be hf
    obtain ⟨v1, hv, hf⟩ := hf
    refine zv_gf zq_202 zo_202 rfl rfl rfl (zf_Ie hv) ?_
    replace hf := zf_ite hf
    obtain ⟨hc, hf⟩ | ⟨hc, hf⟩ := hf
    · refine zv_brT (off := 21) (tt := 28) (r := []) zq_202 zo_202 hc rfl rfl rfl ?_
      refine zv_p (k := 1) (f' := (29, [(0, .ref p0), (1, .int p1), (2, .int p2)], [.int (-1 : Int32)])) zq_202 zo_202 (by with_unfolding_all rfl) ?_
      cases hf
      exact zv_rn zq_202 zo_202 rfl rfl
    · refine zv_brF (off := 21) (tt := 28) (r := []) zq_202 zo_202 hc rfl rfl rfl ?_
      refine zv_p (k := 1) (f' := (11, [(0, .ref p0), (1, .int p1), (2, .int p2)], [.ref p0])) zq_202 zo_202 (by with_unfolding_all rfl) ?_
      replace hf := zf_be hf
      obtain ⟨v2, hv, hf⟩ := hf
      refine zv_gf zq_202 zo_202 rfl rfl rfl (zf_Ae hv) ?_
      refine zv_p (k := 1) (f' := (15, [(0, .ref p0), (1, .int p1), (2, .int p2)], [.int p2, .ref v2])) zq_202 zo_202 (by with_unfolding_all rfl) ?_
      replace hf := zf_be hf
      obtain ⟨v3, hv, hf⟩ := hf
      refine zv_ldI zq_202 zo_202 rfl hv ?_
      refine zv_p (k := 1) (f' := (17, [(0, .ref p0), (1, .int p1), (2, .int p2)], [.int p1, .int v3])) zq_202 zo_202 (by with_unfolding_all rfl) ?_
      replace hf := zf_ite hf
      obtain ⟨hc, hf⟩ | ⟨hc, hf⟩ := hf
      · refine zv_brT (off := 5) (tt := 22) (r := []) zq_202 zo_202 hc rfl rfl rfl ?_
        refine zv_p (k := 2) (f' := (2, [(2, .int (p2 + (1 : Int32))), (0, .ref p0), (1, .int p1)], [])) zq_202 zo_202 (by with_unfolding_all rfl) ?_
        refine zv_pick (lv' := [(0, .ref p0), (1, .int p1), (2, .int (p2 + (1 : Int32)))]) [0, 1, 2] rfl rfl ?_
        exact ih _ _ _ _ _ _ hf
      · refine zv_brF (off := 5) (tt := 22) (r := []) zq_202 zo_202 hc rfl rfl rfl ?_
        refine zv_p (k := 1) (f' := (21, [(0, .ref p0), (1, .int p1), (2, .int p2)], [.int p2])) zq_202 zo_202 (by with_unfolding_all rfl) ?_
        cases hf
        exact zv_rn zq_202 zo_202 rfl rfl
set_option maxHeartbeats 1000000 in
def f_Sheet_placeInOrder (p0 : Nat) (p1 : Int32) (h : zx_H) : Option (Int32 × zx_H) :=
  f_Sheet_placeInOrder_2 zF p0 p1 (0 : Int32) h
set_option maxHeartbeats 4000000 in
set_option maxRecDepth 400000 in
theorem t_f_Sheet_placeInOrder {sc : (Nat × (Nat → Int32)) × Bool} {d : Nat} (p0 : Nat) (p1 : Int32) (h : zx_H) (r : Int32) (h' : zx_H) (hf : f_Sheet_placeInOrder p0 p1 h = some (r, h')) : zx_T sc d 202 (0, [(0, .ref p0), (1, .int p1)], []) h (zf_oI r) h' := by
  unfold f_Sheet_placeInOrder at hf
  refine zv_p (k := 2) (f' := (2, [(2, .int (0 : Int32)), (0, .ref p0), (1, .int p1)], [])) zq_202 zo_202 (by with_unfolding_all rfl) ?_
  refine zv_pick (lv' := [(0, .ref p0), (1, .int p1), (2, .int (0 : Int32))]) [0, 1, 2] rfl rfl ?_
  exact t_f_Sheet_placeInOrder_2 zF _ _ _ _ _ _ hf
