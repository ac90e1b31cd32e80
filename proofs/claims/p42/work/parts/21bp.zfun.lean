set_option maxHeartbeats 1000000 in
def f_ColumnVaultLaw_piece_99 (r_261 : Nat → Nat → Int32 → Nat → Int32 → Nat → zx_H → Option ((Nat ⊕ Nat) × zx_H)) (p0 : Nat) (p1 : Nat) (p2 : Int32) (p3 : Nat) (p4 : Int32) (p5 : Nat) (p6 : Int32) (h : zx_H) : Option ((Nat ⊕ Nat) × zx_H) :=
  if ¬ p6 = (1 : Int32) then
    zf_b3 (f_ColumnVaultLaw_test p0 p1 p2 p3 p5 h) fun v1 h2 =>
    some (.inl v1, h2)
  else
    if (2 : Int32) ≤ p4 then
      zf_b3 (f_ColumnVaultLaw_test p0 p1 p2 p3 p5 h) fun v4 h5 =>
      some (.inl v4, h5)
    else
      zf_b (zf_is 1 p3 h) fun _ =>
      zf_b2 (f_StringBuilder_appendq3 p3 (zx_lim + 1 + 622) h) fun v7 h8 =>
      zf_b3 (f_ColumnVaultLaw_filter r_261 p0 p1 p2 p3 (p4 + (1 : Int32)) p5 h8) fun v9 h10 =>
      zf_b (zf_is 1 p3 h10) fun _ =>
      zf_b2 (f_StringBuilder_appendq3 p3 (zx_lim + 1 + 624) h10) fun v12 h13 =>
      some (.inl v9, h13)
set_option maxHeartbeats 4000000 in
set_option maxRecDepth 400000 in
theorem t_f_ColumnVaultLaw_piece_99 {sc : (Nat × (Nat → Int32)) × Bool} {d : Nat} {r_261 : Nat → Nat → Int32 → Nat → Int32 → Nat → zx_H → Option ((Nat ⊕ Nat) × zx_H)} (hr : ∀ (a0 : Nat) (a1 : Nat) (a2 : Int32) (a3 : Nat) (a4 : Int32) (a5 : Nat) (h : zx_H) (r : (Nat ⊕ Nat)) (h' : zx_H), r_261 a0 a1 a2 a3 a4 a5 h = some (r, h') → zx_T sc d 261 (0, [(0, .ref a0), (1, .ref a1), (2, .int a2), (3, .ref a3), (4, .int a4), (5, .ref a5)], []) h (zf_oAx r) h') (p0 : Nat) (p1 : Nat) (p2 : Int32) (p3 : Nat) (p4 : Int32) (p5 : Nat) (p6 : Int32) (h : zx_H) (r : (Nat ⊕ Nat)) (h' : zx_H) (hf : f_ColumnVaultLaw_piece_99 r_261 p0 p1 p2 p3 p4 p5 p6 h = some (r, h')) : zx_T sc (d + 9) 261 (99, [(0, .ref p0), (1, .ref p1), (2, .int p2), (3, .ref p3), (4, .int p4), (5, .ref p5), (6, .int p6)], []) h (zf_oAx r) h' := by
  unfold f_ColumnVaultLaw_piece_99 at hf
  refine zv_p (k := 2) (f' := (102, [(0, .ref p0), (1, .ref p1), (2, .int p2), (3, .ref p3), (4, .int p4), (5, .ref p5), (6, .int p6)], [.int (1 : Int32), .int p6])) zq_261 zo_261 (by with_unfolding_all rfl) ?_
  replace hf := zf_ite hf
  obtain ⟨hc, hf⟩ | ⟨hc, hf⟩ := hf
  · refine zv_brT (off := 42) (tt := 144) (r := []) zq_261 zo_261 hc rfl rfl rfl ?_
    refine zv_p (k := 5) (f' := (150, [(0, .ref p0), (1, .ref p1), (2, .int p2), (3, .ref p3), (4, .int p4), (5, .ref p5), (6, .int p6)], [.ref p5, .ref p3, .int p2, .ref p1, .ref p0])) zq_261 zo_261 (by with_unfolding_all rfl) ?_
    replace hf := zf_b3e hf
    obtain ⟨v1, h2, hv, hf⟩ | ⟨E3, h2, hv, hf⟩ := hf
    rotate_left
    · cases hf; exact zv_cx zq_261 zo_261 rfl rfl rfl rfl rfl rfl (t_f_ColumnVaultLaw_test _ _ _ _ _ _ _ _ hv) rfl
    refine zv_c zq_261 zo_261 rfl rfl rfl rfl rfl rfl (t_f_ColumnVaultLaw_test _ _ _ _ _ _ _ _ hv) ?_
    cases hf
    exact zv_r zq_261 zo_261 rfl rfl rfl rfl rfl
  · refine zv_brF (off := 42) (tt := 144) (r := []) zq_261 zo_261 hc rfl rfl rfl ?_
    refine zv_p (k := 2) (f' := (108, [(0, .ref p0), (1, .ref p1), (2, .int p2), (3, .ref p3), (4, .int p4), (5, .ref p5), (6, .int p6)], [.int (2 : Int32), .int p4])) zq_261 zo_261 (by with_unfolding_all rfl) ?_
    replace hf := zf_ite hf
    obtain ⟨hc, hf⟩ | ⟨hc, hf⟩ := hf
    · refine zv_brT (off := 36) (tt := 144) (r := []) zq_261 zo_261 hc rfl rfl rfl ?_
      refine zv_p (k := 5) (f' := (150, [(0, .ref p0), (1, .ref p1), (2, .int p2), (3, .ref p3), (4, .int p4), (5, .ref p5), (6, .int p6)], [.ref p5, .ref p3, .int p2, .ref p1, .ref p0])) zq_261 zo_261 (by with_unfolding_all rfl) ?_
      replace hf := zf_b3e hf
      obtain ⟨v4, h5, hv, hf⟩ | ⟨E6, h5, hv, hf⟩ := hf
      rotate_left
      · cases hf; exact zv_cx zq_261 zo_261 rfl rfl rfl rfl rfl rfl (t_f_ColumnVaultLaw_test _ _ _ _ _ _ _ _ hv) rfl
      refine zv_c zq_261 zo_261 rfl rfl rfl rfl rfl rfl (t_f_ColumnVaultLaw_test _ _ _ _ _ _ _ _ hv) ?_
      cases hf
      exact zv_r zq_261 zo_261 rfl rfl rfl rfl rfl
    · refine zv_brF (off := 36) (tt := 144) (r := []) zq_261 zo_261 hc rfl rfl rfl ?_
      refine zv_p (k := 1) (f' := (112, [(0, .ref p0), (1, .ref p1), (2, .int p2), (3, .ref p3), (4, .int p4), (5, .ref p5), (6, .int p6)], [.ref p3])) zq_261 zo_261 (by with_unfolding_all rfl) ?_
      refine zv_str zq_261 zo_261 rfl rfl ?_
      replace hf := zf_be hf
      obtain ⟨_, ho, hf⟩ := hf
      replace hf := zf_b2e hf
      obtain ⟨v7, h8, hv, hf⟩ := hf
      refine zv_c zq_261 zo_261 rfl rfl rfl rfl rfl (zv_cv rfl rfl rfl (zf_ise ho) rfl) (t_f_StringBuilder_appendq3 _ _ _ _ _ hv) ?_
      refine zv_p (k := 8) (f' := (126, [(0, .ref p0), (1, .ref p1), (2, .int p2), (3, .ref p3), (4, .int p4), (5, .ref p5), (6, .int p6)], [.int (p4 + (1 : Int32)), .ref p3, .int p2, .ref p1, .ref p0])) zq_261 zo_261 (by with_unfolding_all rfl) ?_
      refine zv_p (k := 1) (f' := (128, [(0, .ref p0), (1, .ref p1), (2, .int p2), (3, .ref p3), (4, .int p4), (5, .ref p5), (6, .int p6)], [.ref p5, .int (p4 + (1 : Int32)), .ref p3, .int p2, .ref p1, .ref p0])) zq_261 zo_261 (by with_unfolding_all rfl) ?_
      replace hf := zf_b3e hf
      obtain ⟨v9, h10, hv, hf⟩ | ⟨E11, h10, hv, hf⟩ := hf
      rotate_left
      · cases hf; exact zv_cx zq_261 zo_261 rfl rfl rfl rfl rfl rfl (zv_dp 2 <| t_f_ColumnVaultLaw_filter hr _ _ _ _ _ _ _ _ _ hv) rfl
      refine zv_c zq_261 zo_261 rfl rfl rfl rfl rfl rfl (zv_dp 2 <| t_f_ColumnVaultLaw_filter hr _ _ _ _ _ _ _ _ _ hv) ?_
      refine zv_p (k := 2) (f' := (134, [(7, .ref v9), (0, .ref p0), (1, .ref p1), (2, .int p2), (3, .ref p3), (4, .int p4), (5, .ref p5), (6, .int p6)], [.ref p3])) zq_261 zo_261 (by with_unfolding_all rfl) ?_
      refine zv_strw zq_261 zo_261 rfl rfl ?_
      replace hf := zf_be hf
      obtain ⟨_, ho, hf⟩ := hf
      replace hf := zf_b2e hf
      obtain ⟨v12, h13, hv, hf⟩ := hf
      refine zv_c zq_261 zo_261 rfl rfl rfl rfl rfl (zv_cv rfl rfl rfl (zf_ise ho) rfl) (t_f_StringBuilder_appendq3 _ _ _ _ _ hv) ?_
      refine zv_p (k := 2) (f' := (143, [(7, .ref v9), (0, .ref p0), (1, .ref p1), (2, .int p2), (3, .ref p3), (4, .int p4), (5, .ref p5), (6, .int p6)], [.ref v9])) zq_261 zo_261 (by with_unfolding_all rfl) ?_
      cases hf
      exact zv_r zq_261 zo_261 rfl rfl rfl rfl rfl
set_option maxHeartbeats 1000000 in
def f_ColumnVaultLaw_pieceb (r_261 : Nat → Nat → Int32 → Nat → Int32 → Nat → zx_H → Option ((Nat ⊕ Nat) × zx_H)) (p0 : Nat) (p1 : Nat) (p2 : Int32) (p3 : Nat) (p4 : Int32) (p5 : Nat) (h : zx_H) : Option ((Nat ⊕ Nat) × zx_H) :=
  zf_b2 (f_ColumnVaultLaw_draw p0 (6 : Int32) h) fun v1 h2 =>
  if ¬ v1 = 0 then
    f_ColumnVaultLaw_piece_99 r_261 p0 p1 p2 p3 p4 p5 v1 h2
  else
    if (3 : Int32) ≤ p4 then
      f_ColumnVaultLaw_piece_99 r_261 p0 p1 p2 p3 p4 p5 v1 h2
    else
      zf_b2 (f_ColumnVaultLaw_draw p0 (2 : Int32) h2) fun v3 h4 =>
      if ¬ v3 = 0 then
        f_ColumnVaultLaw_piece_35 r_261 p0 p1 p2 p3 p4 p5 p3 (zx_lim + 1 + 620) h4
      else
        f_ColumnVaultLaw_piece_35 r_261 p0 p1 p2 p3 p4 p5 p3 (zx_lim + 1 + 618) h4
set_option maxHeartbeats 4000000 in
set_option maxRecDepth 400000 in
theorem t_f_ColumnVaultLaw_pieceb {sc : (Nat × (Nat → Int32)) × Bool} {d : Nat} {r_261 : Nat → Nat → Int32 → Nat → Int32 → Nat → zx_H → Option ((Nat ⊕ Nat) × zx_H)} (hr : ∀ (a0 : Nat) (a1 : Nat) (a2 : Int32) (a3 : Nat) (a4 : Int32) (a5 : Nat) (h : zx_H) (r : (Nat ⊕ Nat)) (h' : zx_H), r_261 a0 a1 a2 a3 a4 a5 h = some (r, h') → zx_T sc d 261 (0, [(0, .ref a0), (1, .ref a1), (2, .int a2), (3, .ref a3), (4, .int a4), (5, .ref a5)], []) h (zf_oAx r) h') (p0 : Nat) (p1 : Nat) (p2 : Int32) (p3 : Nat) (p4 : Int32) (p5 : Nat) (h : zx_H) (r : (Nat ⊕ Nat)) (h' : zx_H) (hf : f_ColumnVaultLaw_pieceb r_261 p0 p1 p2 p3 p4 p5 h = some (r, h')) : zx_T sc (d + 9) 261 (0, [(0, .ref p0), (1, .ref p1), (2, .int p2), (3, .ref p3), (4, .int p4), (5, .ref p5)], []) h (zf_oAx r) h' := by
  unfold f_ColumnVaultLaw_pieceb at hf
  refine zv_p (k := 2) (f' := (3, [(0, .ref p0), (1, .ref p1), (2, .int p2), (3, .ref p3), (4, .int p4), (5, .ref p5)], [.int (6 : Int32), .ref p0])) zq_261 zo_261 (by with_unfolding_all rfl) ?_
  replace hf := zf_b2e hf
  obtain ⟨v1, h2, hv, hf⟩ := hf
  refine zv_c zq_261 zo_261 rfl rfl rfl rfl rfl rfl (t_f_ColumnVaultLaw_draw _ _ _ _ _ hv) ?_
  refine zv_p (k := 2) (f' := (10, [(6, .int v1), (0, .ref p0), (1, .ref p1), (2, .int p2), (3, .ref p3), (4, .int p4), (5, .ref p5)], [.int v1])) zq_261 zo_261 (by with_unfolding_all rfl) ?_
  replace hf := zf_ite hf
  obtain ⟨hc, hf⟩ | ⟨hc, hf⟩ := hf
  · refine zv_brT (off := 89) (tt := 99) (r := []) zq_261 zo_261 hc rfl rfl rfl ?_
    refine zv_pick (lv' := [(0, .ref p0), (1, .ref p1), (2, .int p2), (3, .ref p3), (4, .int p4), (5, .ref p5), (6, .int v1)]) [0, 1, 2, 3, 4, 5, 6] rfl rfl ?_
    exact t_f_ColumnVaultLaw_piece_99 hr _ _ _ _ _ _ _ _ _ _ hf
  · refine zv_brF (off := 89) (tt := 99) (r := []) zq_261 zo_261 hc rfl rfl rfl ?_
    refine zv_p (k := 2) (f' := (16, [(6, .int v1), (0, .ref p0), (1, .ref p1), (2, .int p2), (3, .ref p3), (4, .int p4), (5, .ref p5)], [.int (3 : Int32), .int p4])) zq_261 zo_261 (by with_unfolding_all rfl) ?_
    replace hf := zf_ite hf
    obtain ⟨hc, hf⟩ | ⟨hc, hf⟩ := hf
    · refine zv_brT (off := 83) (tt := 99) (r := []) zq_261 zo_261 hc rfl rfl rfl ?_
      refine zv_pick (lv' := [(0, .ref p0), (1, .ref p1), (2, .int p2), (3, .ref p3), (4, .int p4), (5, .ref p5), (6, .int v1)]) [0, 1, 2, 3, 4, 5, 6] rfl rfl ?_
      exact t_f_ColumnVaultLaw_piece_99 hr _ _ _ _ _ _ _ _ _ _ hf
    · refine zv_brF (off := 83) (tt := 99) (r := []) zq_261 zo_261 hc rfl rfl rfl ?_
      refine zv_p (k := 3) (f' := (22, [(6, .int v1), (0, .ref p0), (1, .ref p1), (2, .int p2), (3, .ref p3), (4, .int p4), (5, .ref p5)], [.int (2 : Int32), .ref p0, .ref p3])) zq_261 zo_261 (by with_unfolding_all rfl) ?_
      replace hf := zf_b2e hf
      obtain ⟨v3, h4, hv, hf⟩ := hf
      refine zv_c zq_261 zo_261 rfl rfl rfl rfl rfl rfl (t_f_ColumnVaultLaw_draw _ _ _ _ _ hv) ?_
      replace hf := zf_ite hf
      obtain ⟨hc, hf⟩ | ⟨hc, hf⟩ := hf
      · refine zv_brT (off := 8) (tt := 33) (r := [.ref p3]) zq_261 zo_261 hc rfl rfl rfl ?_
        refine zv_str zq_261 zo_261 rfl rfl ?_
        refine zv_pick (lv' := [(0, .ref p0), (1, .ref p1), (2, .int p2), (3, .ref p3), (4, .int p4), (5, .ref p5)]) [0, 1, 2, 3, 4, 5] rfl rfl ?_
        exact t_f_ColumnVaultLaw_piece_35 hr _ _ _ _ _ _ _ _ _ _ _ hf
      · refine zv_brF (off := 8) (tt := 33) (r := [.ref p3]) zq_261 zo_261 hc rfl rfl rfl ?_
        refine zv_str zq_261 zo_261 rfl rfl ?_
        refine zv_p (k := 1) (f' := (35, [(6, .int v1), (0, .ref p0), (1, .ref p1), (2, .int p2), (3, .ref p3), (4, .int p4), (5, .ref p5)], [.ref (zx_lim + 1 + 618), .ref p3])) zq_261 zo_261 (by with_unfolding_all rfl) ?_
        refine zv_pick (lv' := [(0, .ref p0), (1, .ref p1), (2, .int p2), (3, .ref p3), (4, .int p4), (5, .ref p5)]) [0, 1, 2, 3, 4, 5] rfl rfl ?_
        exact t_f_ColumnVaultLaw_piece_35 hr _ _ _ _ _ _ _ _ _ _ _ hf
set_option maxHeartbeats 1000000 in
def f_ColumnVaultLaw_piece : Nat → Nat → Nat → Int32 → Nat → Int32 → Nat → zx_H → Option ((Nat ⊕ Nat) × zx_H)
  | 0, _, _, _, _, _, _, _ => none
  | n + 1, p0, p1, p2, p3, p4, p5, h => f_ColumnVaultLaw_pieceb (f_ColumnVaultLaw_piece n) p0 p1 p2 p3 p4 p5 h
set_option maxHeartbeats 4000000 in
set_option maxRecDepth 400000 in
theorem t_f_ColumnVaultLaw_piece {sc : (Nat × (Nat → Int32)) × Bool} {d : Nat} : ∀ (n : Nat) (p0 : Nat) (p1 : Nat) (p2 : Int32) (p3 : Nat) (p4 : Int32) (p5 : Nat) (h : zx_H) (r : (Nat ⊕ Nat)) (h' : zx_H), f_ColumnVaultLaw_piece n p0 p1 p2 p3 p4 p5 h = some (r, h') → zx_T sc (d + 9 * n) 261 (0, [(0, .ref p0), (1, .ref p1), (2, .int p2), (3, .ref p3), (4, .int p4), (5, .ref p5)], []) h (zf_oAx r) h' := by
  intro n
  induction n with
  | zero => intro p0 p1 p2 p3 p4 p5 h r h' hf; cases hf
  | succ n ih =>
    intro p0 p1 p2 p3 p4 p5 h r h' hf
    unfold f_ColumnVaultLaw_piece at hf
    rw [show d + 9 * (n + 1) = (d + 9 * n) + 9 by omega]
    exact t_f_ColumnVaultLaw_pieceb ih p0 p1 p2 p3 p4 p5 h r h' hf
theorem tc_f_ColumnVaultLaw_piece {sc : (Nat × (Nat → Int32)) × Bool} {d : Nat} (p0 : Nat) (p1 : Nat) (p2 : Int32) (p3 : Nat) (p4 : Int32) (p5 : Nat) (h : zx_H) (r : (Nat ⊕ Nat)) (h' : zx_H) (hf : f_ColumnVaultLaw_piece 20 p0 p1 p2 p3 p4 p5 h = some (r, h')) : zx_T sc (d + 180) 261 (0, [(0, .ref p0), (1, .ref p1), (2, .int p2), (3, .ref p3), (4, .int p4), (5, .ref p5)], []) h (zf_oAx r) h' := t_f_ColumnVaultLaw_piece 20 p0 p1 p2 p3 p4 p5 h r h' hf
set_option maxHeartbeats 4000000 in
set_option maxRecDepth 400000 in
theorem tc_f_ColumnVaultLaw_filter {sc : (Nat × (Nat → Int32)) × Bool} {d : Nat} (p0 : Nat) (p1 : Nat) (p2 : Int32) (p3 : Nat) (p4 : Int32) (p5 : Nat) (h : zx_H) (r : (Nat ⊕ Nat)) (h' : zx_H) (hf : f_ColumnVaultLaw_filter (f_ColumnVaultLaw_piece 20) p0 p1 p2 p3 p4 p5 h = some (r, h')) : zx_T sc (d + 186) 260 (0, [(0, .ref p0), (1, .ref p1), (2, .int p2), (3, .ref p3), (4, .int p4), (5, .ref p5)], []) h (zf_oAx r) h' := by
  rw [show d + 186 = (d + 180) + 6 by omega]
  exact t_f_ColumnVaultLaw_filter (tc_f_ColumnVaultLaw_piece (d := d)) p0 p1 p2 p3 p4 p5 h r h' hf
/-! ColumnVault.clearText ()I -/
noncomputable def zI_270 : zd_T := [[(0, .aload_n 0, 1), (1, .getfield 21, 3), (4, .getfield 219, 3), (7, .istore_n 1, 1), (8, .aload_n 0, 1), (9, .getfield 21, 3), (12, .iconst 0, 1), (13, .putfield 219, 3), (16, .iload_n 1, 1), (17, .ireturn, 1)]]
theorem zo_270 : zd_of 270 = some zI_270 := rfl
set_option maxRecDepth 100000 in
theorem zq_270 : zt_m[270]? = some (⟨"ColumnVault", "clearText", "()I"⟩, prog_1_method_23_code, 2, some (.int), [], 12, 0, 0, 0, 0, 0) := rfl
set_option maxHeartbeats 1000000 in
def f_ColumnVault_clearText (p0 : Nat) (h : zx_H) : Option (Int32 × zx_H) :=
  zf_b (zf_A 12 1 p0 h) fun v1 =>
  zf_b (zf_I 4 1 v1 h) fun v2 =>
  zf_b (zf_A 12 1 p0 h) fun v3 =>
  zf_b (zf_put 4 1 v3 (.int (0 : Int32)) h) fun h4 =>
  some (v2, h4)
set_option maxHeartbeats 4000000 in
set_option maxRecDepth 400000 in
theorem t_f_ColumnVault_clearText {sc : (Nat × (Nat → Int32)) × Bool} {d : Nat} (p0 : Nat) (h : zx_H) (r : Int32) (h' : zx_H) (hf : f_ColumnVault_clearText p0 h = some (r, h')) : zx_T sc d 270 (0, [(0, .ref p0)], []) h (zf_oI r) h' := by
  unfold f_ColumnVault_clearText at hf
  refine zv_p (k := 1) (f' := (1, [(0, .ref p0)], [.ref p0])) zq_270 zo_270 (by with_unfolding_all rfl) ?_
  replace hf := zf_be hf
  obtain ⟨v1, hv, hf⟩ := hf
  refine zv_gf zq_270 zo_270 rfl rfl rfl (zf_Ae hv) ?_
  replace hf := zf_be hf
  obtain ⟨v2, hv, hf⟩ := hf
  refine zv_gf zq_270 zo_270 rfl rfl rfl (zf_Ie hv) ?_
  refine zv_p (k := 2) (f' := (9, [(1, .int v2), (0, .ref p0)], [.ref p0])) zq_270 zo_270 (by with_unfolding_all rfl) ?_
  replace hf := zf_be hf
  obtain ⟨v3, hv, hf⟩ := hf
  refine zv_gf zq_270 zo_270 rfl rfl rfl (zf_Ae hv) ?_
  refine zv_p (k := 1) (f' := (13, [(1, .int v2), (0, .ref p0)], [.int (0 : Int32), .ref v3])) zq_270 zo_270 (by with_unfolding_all rfl) ?_
  replace hf := zf_be hf
  obtain ⟨h4, hv, hf⟩ := hf
  refine zv_pf zq_270 zo_270 rfl rfl rfl rfl hv ?_
  refine zv_p (k := 1) (f' := (17, [(1, .int v2), (0, .ref p0)], [.int v2])) zq_270 zo_270 (by with_unfolding_all rfl) ?_
  cases hf
  exact zv_rn zq_270 zo_270 rfl rfl
/-! AbstractStringBuilder.charAt (I)C -/
noncomputable def zI_272 : zd_T := [[(0, .aload_n 0, 1), (1, .getfield 22, 3), (4, .istore_n 2, 1), (5, .aload_n 0, 1), (6, .getfield 15, 3), (9, .astore_n 3, 1), (10, .aload_n 0, 1), (11, .getfield 79, 3), (14, .aload_n 3, 1), (15, .arraylength, 1), (16, .iload_n 2, 1), (17, .ishr, 1), (18, .invokestatic 138, 3), (21, .istore 4, 2), (23, .iload_n 1, 1), (24, .iload 4, 2), (26, .invokestatic 144, 3), (29, .iload_n 2, 1), (30, .ifCond .ne 12, 3)], [(33, .aload_n 3, 1), (34, .iload_n 1, 1), (35, .baload, 1), (36, .sipush 255, 3), (39, .iand, 1), (40, .i2c, 1), (41, .ireturn, 1), (42, .aload_n 3, 1), (43, .iload_n 1, 1), (44, .invokestatic 148, 3), (47, .ireturn, 1)]]
theorem zo_272 : zd_of 272 = some zI_272 := rfl
set_option maxRecDepth 100000 in
theorem zq_272 : zt_m[272]? = some (⟨"java/lang/AbstractStringBuilder", "charAt", "(I)C"⟩, prog_17_method_14_code, 5, some (.char), [], 20, 1, 0, 0, 99999, 0) := rfl
set_option maxHeartbeats 1000000 in
def f_AbstractStringBuilder_charAt (p0 : Nat) (p1 : Int32) (h : zx_H) : Option (Int32 × zx_H) :=
  zf_b (zf_I 1 1 p0 h) fun v1 =>
  zf_b (zf_A 1 0 p0 h) fun v2 =>
  zf_b (zf_I 1 3 p0 h) fun v3 =>
  zf_b (zf_len v2 h) fun v4 =>
  zf_b2 (f_String_checkIndex p1 (if (v4 >>> (v1 &&& 31)) < v3 then (v4 >>> (v1 &&& 31)) else v3) h) fun _ h6 =>
  if ¬ v1 = 0 then
    none
  else
    zf_b (zf_ldB v2 p1 h6) fun v7 =>
    if narrow .char (.int ((((v7 &&& (255 : Int32))).toUInt32 % 65536).toInt32)) = .int ((((v7 &&& (255 : Int32))).toUInt32 % 65536).toInt32) then some ((((v7 &&& (255 : Int32))).toUInt32 % 65536).toInt32, h6) else none
set_option maxHeartbeats 4000000 in
set_option maxRecDepth 400000 in
theorem t_f_AbstractStringBuilder_charAt {sc : (Nat × (Nat → Int32)) × Bool} {d : Nat} (p0 : Nat) (p1 : Int32) (h : zx_H) (r : Int32) (h' : zx_H) (hf : f_AbstractStringBuilder_charAt p0 p1 h = some (r, h')) : zx_T sc (d + 2) 272 (0, [(0, .ref p0), (1, .int p1)], []) h (zf_oI r) h' := by
  unfold f_AbstractStringBuilder_charAt at hf
  refine zv_p (k := 1) (f' := (1, [(0, .ref p0), (1, .int p1)], [.ref p0])) zq_272 zo_272 (by with_unfolding_all rfl) ?_
  replace hf := zf_be hf
  obtain ⟨v1, hv, hf⟩ := hf
  refine zv_gf zq_272 zo_272 rfl rfl rfl (zf_Ie hv) ?_
  refine zv_p (k := 2) (f' := (6, [(2, .int v1), (0, .ref p0), (1, .int p1)], [.ref p0])) zq_272 zo_272 (by with_unfolding_all rfl) ?_
  replace hf := zf_be hf
  obtain ⟨v2, hv, hf⟩ := hf
  refine zv_gf zq_272 zo_272 rfl rfl rfl (zf_Ae hv) ?_
  refine zv_p (k := 2) (f' := (11, [(3, .ref v2), (2, .int v1), (0, .ref p0), (1, .int p1)], [.ref p0])) zq_272 zo_272 (by with_unfolding_all rfl) ?_
  replace hf := zf_be hf
  obtain ⟨v3, hv, hf⟩ := hf
  refine zv_gf zq_272 zo_272 rfl rfl rfl (zf_Ie hv) ?_
  refine zv_p (k := 1) (f' := (15, [(3, .ref v2), (2, .int v1), (0, .ref p0), (1, .int p1)], [.ref v2, .int v3])) zq_272 zo_272 (by with_unfolding_all rfl) ?_
  replace hf := zf_be hf
  obtain ⟨v4, hv, hf⟩ := hf
  refine zv_len zq_272 zo_272 rfl hv ?_
  refine zv_p (k := 2) (f' := (18, [(3, .ref v2), (2, .int v1), (0, .ref p0), (1, .int p1)], [.int (v4 >>> (v1 &&& 31)), .int v3])) zq_272 zo_272 (by with_unfolding_all rfl) ?_
  refine zv_mm1 zq_272 zo_272 rfl rfl rfl ?_
  refine zv_p (k := 3) (f' := (26, [(4, .int (if (v4 >>> (v1 &&& 31)) < v3 then (v4 >>> (v1 &&& 31)) else v3)), (3, .ref v2), (2, .int v1), (0, .ref p0), (1, .int p1)], [.int (if (v4 >>> (v1 &&& 31)) < v3 then (v4 >>> (v1 &&& 31)) else v3), .int p1])) zq_272 zo_272 (by with_unfolding_all rfl) ?_
  replace hf := zf_b2e hf
  obtain ⟨v5, h6, hv, hf⟩ := hf
  refine zv_c zq_272 zo_272 rfl rfl rfl rfl rfl rfl (t_f_String_checkIndex _ _ _ _ _ hv) ?_
  refine zv_p (k := 1) (f' := (30, [(4, .int (if (v4 >>> (v1 &&& 31)) < v3 then (v4 >>> (v1 &&& 31)) else v3)), (3, .ref v2), (2, .int v1), (0, .ref p0), (1, .int p1)], [.int v1])) zq_272 zo_272 (by with_unfolding_all rfl) ?_
  replace hf := zf_ite hf
  obtain ⟨hc, hf⟩ | ⟨hc, hf⟩ := hf
  · refine zv_brT (off := 12) (tt := 42) (r := []) zq_272 zo_272 hc rfl rfl rfl ?_
    refine zv_p (k := 2) (f' := (44, [(4, .int (if (v4 >>> (v1 &&& 31)) < v3 then (v4 >>> (v1 &&& 31)) else v3)), (3, .ref v2), (2, .int v1), (0, .ref p0), (1, .int p1)], [.int p1, .ref v2])) zq_272 zo_272 (by with_unfolding_all rfl) ?_
    cases hf
  · refine zv_brF (off := 12) (tt := 42) (r := []) zq_272 zo_272 hc rfl rfl rfl ?_
    refine zv_p (k := 2) (f' := (35, [(4, .int (if (v4 >>> (v1 &&& 31)) < v3 then (v4 >>> (v1 &&& 31)) else v3)), (3, .ref v2), (2, .int v1), (0, .ref p0), (1, .int p1)], [.int p1, .ref v2])) zq_272 zo_272 (by with_unfolding_all rfl) ?_
    replace hf := zf_be hf
    obtain ⟨v7, hv, hf⟩ := hf
    refine zv_ldB zq_272 zo_272 rfl hv ?_
    refine zv_p (k := 3) (f' := (41, [(4, .int (if (v4 >>> (v1 &&& 31)) < v3 then (v4 >>> (v1 &&& 31)) else v3)), (3, .ref v2), (2, .int v1), (0, .ref p0), (1, .int p1)], [.int (((v7 &&& (255 : Int32))).toUInt32 % 65536).toInt32])) zq_272 zo_272 (by with_unfolding_all rfl) ?_
    replace hf := zf_ite hf
    obtain ⟨hc, hf⟩ | ⟨hc, hf⟩ := hf
    · cases hf; exact zv_rn zq_272 zo_272 rfl hc
    · cases hf
/-! StringBuilder.charAt (I)C -/
noncomputable def zI_271 : zd_T := [[(0, .aload_n 0, 1), (1, .iload_n 1, 1), (2, .invokespecial 329, 3), (5, .ireturn, 1)]]
theorem zo_271 : zd_of 271 = some zI_271 := rfl
set_option maxRecDepth 100000 in
theorem zq_271 : zt_m[271]? = some (⟨"java/lang/StringBuilder", "charAt", "(I)C"⟩, prog_32_method_88_code, 2, some (.char), [], 1, 1, 0, 0, 99999, 0) := rfl
set_option maxHeartbeats 1000000 in
def f_StringBuilder_charAt (p0 : Nat) (p1 : Int32) (h : zx_H) : Option (Int32 × zx_H) :=
  zf_b (zf_is 1 p0 h) fun _ =>
  zf_b2 (f_AbstractStringBuilder_charAt p0 p1 h) fun v1 h2 =>
  if narrow .char (.int v1) = .int v1 then some (v1, h2) else none
set_option maxHeartbeats 4000000 in
set_option maxRecDepth 400000 in
theorem t_f_StringBuilder_charAt {sc : (Nat × (Nat → Int32)) × Bool} {d : Nat} (p0 : Nat) (p1 : Int32) (h : zx_H) (r : Int32) (h' : zx_H) (hf : f_StringBuilder_charAt p0 p1 h = some (r, h')) : zx_T sc (d + 3) 271 (0, [(0, .ref p0), (1, .int p1)], []) h (zf_oI r) h' := by
  unfold f_StringBuilder_charAt at hf
  refine zv_p (k := 2) (f' := (2, [(0, .ref p0), (1, .int p1)], [.int p1, .ref p0])) zq_271 zo_271 (by with_unfolding_all rfl) ?_
  replace hf := zf_be hf
  obtain ⟨_, ho, hf⟩ := hf
  replace hf := zf_b2e hf
  obtain ⟨v1, h2, hv, hf⟩ := hf
  refine zv_c zq_271 zo_271 rfl rfl rfl rfl rfl (zv_cs rfl rfl rfl (zf_ise ho) rfl) (t_f_AbstractStringBuilder_charAt _ _ _ _ _ hv) ?_
  replace hf := zf_ite hf
  obtain ⟨hc, hf⟩ | ⟨hc, hf⟩ := hf
  · cases hf; exact zv_rn zq_271 zo_271 rfl hc
  · cases hf
def fv_5 (p0 : Nat) (p1 : Int32) (h : zx_H) : Option (Int32 × zx_H) := zf_kd p0 h fun ci =>
  if ci = 0 then f_String_charAt p0 p1 h
  else if ci = 1 then f_StringBuilder_charAt p0 p1 h
  else none
theorem tv_5 {sc : (Nat × (Nat → Int32)) × Bool} {d : Nat} {p0 : Nat} {p1 : Int32} {h : zx_H} {r : Int32} {h' : zx_H} (hv : fv_5 p0 p1 h = some (r, h')) : ∃ mj, (∀ (oc i y w cnt : Nat) (st rest : List Value), zx_pool oc i = some (11, 5, y, w) → st.drop 1 = .ref p0 :: rest → (st.take 1).reverse = [.int p1] → Nat.ble (zx_cs rest) 8 = true → zx_c oc st h (.invokeinterface i cnt) 5 = some (mj, .ref p0 :: [.int p1], rest)) ∧ zx_T sc (d + 3) mj (0, [(0, .ref p0), (1, .int p1)], []) h (zf_oI r) h' := by
  unfold fv_5 at hv
  obtain ⟨ci, hk, hv⟩ := zf_kde hv
  obtain ⟨rfl, hv⟩ | ⟨-, hv⟩ := zf_ite hv
  · refine ⟨189, fun oc i y w cnt st rest h1 h2 h3 h4 => ?_, t_f_String_charAt _ _ _ _ _ hv⟩
    have h5 := zv_c11 (mj := 189) (npj := 1) (cnt := cnt) h1 rfl rfl rfl h2 hk (by rw [h4, h3]; rfl)
    rw [h3] at h5
    exact h5
  obtain ⟨rfl, hv⟩ | ⟨-, hv⟩ := zf_ite hv
  · refine ⟨271, fun oc i y w cnt st rest h1 h2 h3 h4 => ?_, t_f_StringBuilder_charAt _ _ _ _ _ hv⟩
    have h5 := zv_c11 (mj := 271) (npj := 1) (cnt := cnt) h1 rfl rfl rfl h2 hk (by rw [h4, h3]; rfl)
    rw [h3] at h5
    exact h5
  · cases hv
/-! ColumnVaultLaw.says (LColumnVault;Ljava/lang/CharSequence;)V -/
noncomputable def zI_269 : zd_T := [[(0, .aload_n 0, 1), (1, .invokevirtual 271, 3), (4, .i2l, 1), (5, .lstore_n 2, 1), (6, .iconst 0, 1), (7, .istore 4, 2), (9, .iload 4, 2), (11, .aload_n 1, 1), (12, .invokeinterface 274 1, 5), (17, .if_icmp .ge 47, 3), (20, .lload_n 2, 1), (21, .lconst 0, 1), (22, .lcmp, 1), (23, .ifCond .lt 41, 3), (26, .aload_n 0, 1), (27, .bipush 17, 2), (29, .iconst 0, 1), (30, .iconst 0, 1), (31, .aload_n 1, 1)], [(32, .iload 4, 2), (34, .invokeinterface 277 2, 5), (39, .i2l, 1), (40, .invokestatic 278, 3), (43, .ldc2_w 164, 3), (46, .lcmp, 1), (47, .ifCond .ne 9, 3), (50, .ldc2_w 282, 3), (53, .goto 4, 3), (56, .lload_n 2, 1), (57, .lstore_n 2, 1), (58, .iinc 4 1, 3), (61, .goto (-52), 3)], [(64, .return_, 1)]]
theorem zo_269 : zd_of 269 = some zI_269 := rfl
set_option maxRecDepth 100000 in
theorem zq_269 : zt_m[269]? = some (⟨"ColumnVaultLaw", "says", "(LColumnVault;Ljava/lang/CharSequence;)V"⟩, method_21_code, 5, none, [], 17, 2, 0, 1, 99999, 0) := rfl
set_option maxHeartbeats 1000000 in
def f_ColumnVaultLaw_says_9 : Nat → Nat → Nat → Int64 → Int32 → zx_H → Option (Unit × zx_H)
  | 0, _, _, _, _, _ => none
  | n + 1, p0, p1, p2, p3, h =>
    zf_b2 (fv_4 p1 h) fun v1 h2 =>
    if v1 ≤ p3 then
      some ((), h2)
    else
      if p2 < (0 : Int64) then
        some ((), h2)
      else
        zf_b2 (fv_5 p1 p3 h2) fun v3 h4 =>
        zf_b2 (f_ColumnVaultLaw_asks p0 (17 : Int32) (0 : Int32) (0 : Int32) ((v3).toInt64) h4) fun v5 h6 =>
        if ¬ v5 = (-3000000004 : Int64) then
          (f_ColumnVaultLaw_says_9 n) p0 p1 p2 (p3 + (1 : Int32)) h6
        else
          (f_ColumnVaultLaw_says_9 n) p0 p1 (-1 : Int64) (p3 + (1 : Int32)) h6
set_option maxHeartbeats 4000000 in
set_option maxRecDepth 400000 in
theorem t_f_ColumnVaultLaw_says_9 {sc : (Nat × (Nat → Int32)) × Bool} {d : Nat} : ∀ (n : Nat) (p0 : Nat) (p1 : Nat) (p2 : Int64) (p3 : Int32) (h : zx_H) (r : Unit) (h' : zx_H), f_ColumnVaultLaw_says_9 n p0 p1 p2 p3 h = some (r, h') → zx_T sc (d + 125) 269 (9, [(0, .ref p0), (1, .ref p1), (2, .long p2), (4, .int p3)], []) h (zf_oV r) h' := by
  intro n
  induction n with
  | zero => intro p0 p1 p2 p3 h r h' hf; cases hf
  | succ n ih =>
    intro p0 p1 p2 p3 h r h' hf
    unfold f_ColumnVaultLaw_says_9 at hf
    refine zv_p (k := 2) (f' := (12, [(0, .ref p0), (1, .ref p1), (2, .long p2), (4, .int p3)], [.ref p1, .int p3])) zq_269 zo_269 (by with_unfolding_all rfl) ?_
    replace hf := zf_b2e hf
    obtain ⟨v1, h2, hv, hf⟩ := hf
    obtain ⟨mj, hcl, hrun⟩ := tv_4 hv
    refine zv_c zq_269 zo_269 rfl rfl rfl rfl rfl (hcl _ _ _ _ _ _ _ rfl rfl rfl rfl) hrun ?_
    replace hf := zf_ite hf
    obtain ⟨hc, hf⟩ | ⟨hc, hf⟩ := hf
    · refine zv_brT (off := 47) (tt := 64) (r := []) zq_269 zo_269 hc rfl rfl rfl ?_
      cases hf
      exact zv_r zq_269 zo_269 rfl rfl rfl rfl rfl
    · refine zv_brF (off := 47) (tt := 64) (r := []) zq_269 zo_269 hc rfl rfl rfl ?_
      refine zv_p (k := 3) (f' := (23, [(0, .ref p0), (1, .ref p1), (2, .long p2), (4, .int p3)], [.int (lg_cmp p2 (0 : Int64))])) zq_269 zo_269 (by with_unfolding_all rfl) ?_
      replace hf := zf_ite hf
      obtain ⟨hc, hf⟩ | ⟨hc, hf⟩ := hf
      · refine zv_brT (off := 41) (tt := 64) (r := []) zq_269 zo_269 (zl_lt.mpr hc) rfl rfl rfl ?_
        cases hf
        exact zv_r zq_269 zo_269 rfl rfl rfl rfl rfl
      · refine zv_brF (off := 41) (tt := 64) (r := []) zq_269 zo_269 (mt zl_lt.mp hc) rfl rfl rfl ?_
        refine zv_p (k := 6) (f' := (34, [(0, .ref p0), (1, .ref p1), (2, .long p2), (4, .int p3)], [.int p3, .ref p1, .int (0 : Int32), .int (0 : Int32), .int (17 : Int32), .ref p0])) zq_269 zo_269 (by with_unfolding_all rfl) ?_
        replace hf := zf_b2e hf
        obtain ⟨v3, h4, hv, hf⟩ := hf
        obtain ⟨mj, hcl, hrun⟩ := tv_5 hv
        refine zv_c zq_269 zo_269 rfl rfl rfl rfl rfl (hcl _ _ _ _ _ _ _ rfl rfl rfl rfl) hrun ?_
        refine zv_p (k := 1) (f' := (40, [(0, .ref p0), (1, .ref p1), (2, .long p2), (4, .int p3)], [.long (v3).toInt64, .int (0 : Int32), .int (0 : Int32), .int (17 : Int32), .ref p0])) zq_269 zo_269 (by with_unfolding_all rfl) ?_
        replace hf := zf_b2e hf
        obtain ⟨v5, h6, hv, hf⟩ := hf
        refine zv_c zq_269 zo_269 rfl rfl rfl rfl rfl rfl (t_f_ColumnVaultLaw_asks _ _ _ _ _ _ _ _ hv) ?_
        refine zv_lng zq_269 zo_269 rfl rfl ?_
        refine zv_p (k := 1) (f' := (47, [(0, .ref p0), (1, .ref p1), (2, .long p2), (4, .int p3)], [.int (lg_cmp v5 (-3000000004 : Int64))])) zq_269 zo_269 (by with_unfolding_all rfl) ?_
        replace hf := zf_ite hf
        obtain ⟨hc, hf⟩ | ⟨hc, hf⟩ := hf
        · refine zv_brT (off := 9) (tt := 56) (r := []) zq_269 zo_269 (zl_ne.mpr hc) rfl rfl rfl ?_
          refine zv_p (k := 4) (f' := (9, [(4, .int (p3 + (1 : Int32))), (2, .long p2), (0, .ref p0), (1, .ref p1)], [])) zq_269 zo_269 (by with_unfolding_all rfl) ?_
          refine zv_pick (lv' := [(0, .ref p0), (1, .ref p1), (2, .long p2), (4, .int (p3 + (1 : Int32)))]) [0, 1, 2, 4] rfl rfl ?_
          exact ih _ _ _ _ _ _ _ hf
        · refine zv_brF (off := 9) (tt := 56) (r := []) zq_269 zo_269 (mt zl_ne.mp hc) rfl rfl rfl ?_
          refine zv_lng zq_269 zo_269 rfl rfl ?_
          refine zv_p (k := 4) (f' := (9, [(4, .int (p3 + (1 : Int32))), (2, .long (-1 : Int64)), (0, .ref p0), (1, .ref p1)], [])) zq_269 zo_269 (by with_unfolding_all rfl) ?_
          refine zv_pick (lv' := [(0, .ref p0), (1, .ref p1), (2, .long (-1 : Int64)), (4, .int (p3 + (1 : Int32)))]) [0, 1, 2, 4] rfl rfl ?_
          exact ih _ _ _ _ _ _ _ hf
set_option maxHeartbeats 1000000 in
def f_ColumnVaultLaw_says (p0 : Nat) (p1 : Nat) (h : zx_H) : Option (Unit × zx_H) :=
  zf_b (zf_is 12 p0 h) fun _ =>
  zf_b2 (f_ColumnVault_clearText p0 h) fun v1 h2 =>
  f_ColumnVaultLaw_says_9 zF p0 p1 ((v1).toInt64) (0 : Int32) h2
set_option maxHeartbeats 4000000 in
set_option maxRecDepth 400000 in
theorem t_f_ColumnVaultLaw_says {sc : (Nat × (Nat → Int32)) × Bool} {d : Nat} (p0 : Nat) (p1 : Nat) (h : zx_H) (r : Unit) (h' : zx_H) (hf : f_ColumnVaultLaw_says p0 p1 h = some (r, h')) : zx_T sc (d + 125) 269 (0, [(0, .ref p0), (1, .ref p1)], []) h (zf_oV r) h' := by
  unfold f_ColumnVaultLaw_says at hf
  refine zv_p (k := 1) (f' := (1, [(0, .ref p0), (1, .ref p1)], [.ref p0])) zq_269 zo_269 (by with_unfolding_all rfl) ?_
  replace hf := zf_be hf
  obtain ⟨_, ho, hf⟩ := hf
  replace hf := zf_b2e hf
  obtain ⟨v1, h2, hv, hf⟩ := hf
  refine zv_c zq_269 zo_269 rfl rfl rfl rfl rfl (zv_cv rfl rfl rfl (zf_ise ho) rfl) (t_f_ColumnVault_clearText _ _ _ _ hv) ?_
  refine zv_p (k := 4) (f' := (9, [(4, .int (0 : Int32)), (2, .long (v1).toInt64), (0, .ref p0), (1, .ref p1)], [])) zq_269 zo_269 (by with_unfolding_all rfl) ?_
  refine zv_pick (lv' := [(0, .ref p0), (1, .ref p1), (2, .long (v1).toInt64), (4, .int (0 : Int32))]) [0, 1, 2, 4] rfl rfl ?_
  exact t_f_ColumnVaultLaw_says_9 zF _ _ _ _ _ _ _ hf
/-! ColumnVault.errorKind (I)I -/
noncomputable def zI_273 : zd_T := [[(0, .aload_n 0, 1), (1, .iload_n 1, 1), (2, .invokevirtual 203, 3), (5, .astore_n 2, 1), (6, .aload_n 2, 1), (7, .aload_n 0, 1), (8, .getfield 21, 3), (11, .invokevirtual 207, 3), (14, .pop, 1), (15, .aload_n 2, 1), (16, .getfield 213, 3), (19, .ireturn, 1)]]
theorem zo_273 : zd_of 273 = some zI_273 := rfl
set_option maxRecDepth 100000 in
theorem zq_273 : zt_m[273]? = some (⟨"ColumnVault", "errorKind", "(I)I"⟩, prog_1_method_20_code, 3, some (.int), [], 12, 1, 0, 0, 0, 0) := rfl
set_option maxHeartbeats 1000000 in
def f_ColumnVault_errorKind (p0 : Nat) (p1 : Int32) (h : zx_H) : Option ((Int32 ⊕ Nat) × zx_H) :=
  zf_b (zf_is 12 p0 h) fun _ =>
  zf_b3 (f_ColumnVault_readerOf p0 p1 h) fun v1 h2 =>
  zf_b (zf_A 12 1 p0 h2) fun v4 =>
  zf_b (zf_is 3 v1 h2) fun _ =>
  zf_b2 (f_FilterReader_readWhole v1 v4 h2) fun v5 h6 =>
  zf_b (zf_I 3 5 v1 h6) fun v7 =>
  some (.inl v7, h6)
set_option maxHeartbeats 4000000 in
set_option maxRecDepth 400000 in
theorem t_f_ColumnVault_errorKind {sc : (Nat × (Nat → Int32)) × Bool} {d : Nat} (p0 : Nat) (p1 : Int32) (h : zx_H) (r : (Int32 ⊕ Nat)) (h' : zx_H) (hf : f_ColumnVault_errorKind p0 p1 h = some (r, h')) : zx_T sc (d + 122) 273 (0, [(0, .ref p0), (1, .int p1)], []) h (zf_oIx r) h' := by
  unfold f_ColumnVault_errorKind at hf
  refine zv_p (k := 2) (f' := (2, [(0, .ref p0), (1, .int p1)], [.int p1, .ref p0])) zq_273 zo_273 (by with_unfolding_all rfl) ?_
  replace hf := zf_be hf
  obtain ⟨_, ho, hf⟩ := hf
  replace hf := zf_b3e hf
  obtain ⟨v1, h2, hv, hf⟩ | ⟨E3, h2, hv, hf⟩ := hf
  rotate_left
  · cases hf; exact zv_cx zq_273 zo_273 rfl rfl rfl rfl rfl (zv_cv rfl rfl rfl (zf_ise ho) rfl) (t_f_ColumnVault_readerOf _ _ _ _ _ hv) rfl
  refine zv_c zq_273 zo_273 rfl rfl rfl rfl rfl (zv_cv rfl rfl rfl (zf_ise ho) rfl) (t_f_ColumnVault_readerOf _ _ _ _ _ hv) ?_
  refine zv_p (k := 3) (f' := (8, [(2, .ref v1), (0, .ref p0), (1, .int p1)], [.ref p0, .ref v1])) zq_273 zo_273 (by with_unfolding_all rfl) ?_
  replace hf := zf_be hf
  obtain ⟨v4, hv, hf⟩ := hf
  refine zv_gf zq_273 zo_273 rfl rfl rfl (zf_Ae hv) ?_
  replace hf := zf_be hf
  obtain ⟨_, ho, hf⟩ := hf
  replace hf := zf_b2e hf
  obtain ⟨v5, h6, hv, hf⟩ := hf
  refine zv_c zq_273 zo_273 rfl rfl rfl rfl rfl (zv_cv rfl rfl rfl (zf_ise ho) rfl) (t_f_FilterReader_readWhole _ _ _ _ _ hv) ?_
  refine zv_p (k := 2) (f' := (16, [(2, .ref v1), (0, .ref p0), (1, .int p1)], [.ref v1])) zq_273 zo_273 (by cases v5 <;> with_unfolding_all rfl) ?_
  replace hf := zf_be hf
  obtain ⟨v7, hv, hf⟩ := hf
  refine zv_gf zq_273 zo_273 rfl rfl rfl (zf_Ie hv) ?_
  cases hf
  exact zv_rn zq_273 zo_273 rfl rfl
/-! ColumnVault.errorPlace (I)I -/
noncomputable def zI_274 : zd_T := [[(0, .aload_n 0, 1), (1, .iload_n 1, 1), (2, .invokevirtual 203, 3), (5, .astore_n 2, 1), (6, .aload_n 2, 1), (7, .aload_n 0, 1), (8, .getfield 21, 3), (11, .invokevirtual 207, 3), (14, .pop, 1), (15, .aload_n 2, 1), (16, .getfield 216, 3), (19, .ireturn, 1)]]
theorem zo_274 : zd_of 274 = some zI_274 := rfl
set_option maxRecDepth 100000 in
theorem zq_274 : zt_m[274]? = some (⟨"ColumnVault", "errorPlace", "(I)I"⟩, prog_1_method_21_code, 3, some (.int), [], 12, 1, 0, 0, 0, 0) := rfl
set_option maxHeartbeats 1000000 in
def f_ColumnVault_errorPlace (p0 : Nat) (p1 : Int32) (h : zx_H) : Option ((Int32 ⊕ Nat) × zx_H) :=
  zf_b (zf_is 12 p0 h) fun _ =>
  zf_b3 (f_ColumnVault_readerOf p0 p1 h) fun v1 h2 =>
  zf_b (zf_A 12 1 p0 h2) fun v4 =>
  zf_b (zf_is 3 v1 h2) fun _ =>
  zf_b2 (f_FilterReader_readWhole v1 v4 h2) fun v5 h6 =>
  zf_b (zf_I 3 6 v1 h6) fun v7 =>
  some (.inl v7, h6)
set_option maxHeartbeats 4000000 in
set_option maxRecDepth 400000 in
theorem t_f_ColumnVault_errorPlace {sc : (Nat × (Nat → Int32)) × Bool} {d : Nat} (p0 : Nat) (p1 : Int32) (h : zx_H) (r : (Int32 ⊕ Nat)) (h' : zx_H) (hf : f_ColumnVault_errorPlace p0 p1 h = some (r, h')) : zx_T sc (d + 122) 274 (0, [(0, .ref p0), (1, .int p1)], []) h (zf_oIx r) h' := by
  unfold f_ColumnVault_errorPlace at hf
  refine zv_p (k := 2) (f' := (2, [(0, .ref p0), (1, .int p1)], [.int p1, .ref p0])) zq_274 zo_274 (by with_unfolding_all rfl) ?_
  replace hf := zf_be hf
  obtain ⟨_, ho, hf⟩ := hf
  replace hf := zf_b3e hf
  obtain ⟨v1, h2, hv, hf⟩ | ⟨E3, h2, hv, hf⟩ := hf
  rotate_left
  · cases hf; exact zv_cx zq_274 zo_274 rfl rfl rfl rfl rfl (zv_cv rfl rfl rfl (zf_ise ho) rfl) (t_f_ColumnVault_readerOf _ _ _ _ _ hv) rfl
  refine zv_c zq_274 zo_274 rfl rfl rfl rfl rfl (zv_cv rfl rfl rfl (zf_ise ho) rfl) (t_f_ColumnVault_readerOf _ _ _ _ _ hv) ?_
  refine zv_p (k := 3) (f' := (8, [(2, .ref v1), (0, .ref p0), (1, .int p1)], [.ref p0, .ref v1])) zq_274 zo_274 (by with_unfolding_all rfl) ?_
  replace hf := zf_be hf
  obtain ⟨v4, hv, hf⟩ := hf
  refine zv_gf zq_274 zo_274 rfl rfl rfl (zf_Ae hv) ?_
  replace hf := zf_be hf
  obtain ⟨_, ho, hf⟩ := hf
  replace hf := zf_b2e hf
  obtain ⟨v5, h6, hv, hf⟩ := hf
  refine zv_c zq_274 zo_274 rfl rfl rfl rfl rfl (zv_cv rfl rfl rfl (zf_ise ho) rfl) (t_f_FilterReader_readWhole _ _ _ _ _ hv) ?_
  refine zv_p (k := 2) (f' := (16, [(2, .ref v1), (0, .ref p0), (1, .int p1)], [.ref v1])) zq_274 zo_274 (by cases v5 <;> with_unfolding_all rfl) ?_
  replace hf := zf_be hf
  obtain ⟨v7, hv, hf⟩ := hf
  refine zv_gf zq_274 zo_274 rfl rfl rfl (zf_Ie hv) ?_
  cases hf
  exact zv_rn zq_274 zo_274 rfl rfl
/-! ColumnVaultLaw.size (arr Z)I -/
noncomputable def zI_275 : zd_T := [[(0, .iconst 0, 1), (1, .istore_n 1, 1), (2, .aload_n 0, 1), (3, .astore_n 2, 1), (4, .aload_n 2, 1), (5, .arraylength, 1), (6, .istore_n 3, 1), (7, .iconst 0, 1), (8, .istore 4, 2), (10, .iload 4, 2), (12, .iload_n 3, 1), (13, .if_icmp .ge 28, 3), (16, .aload_n 2, 1), (17, .iload 4, 2), (19, .baload, 1), (20, .istore 5, 2), (22, .iload_n 1, 1), (23, .iload 5, 2), (25, .ifCond .eq 7, 3), (28, .iconst 1, 1), (29, .goto 4, 3)], [(32, .iconst 0, 1), (33, .iadd, 1), (34, .istore_n 1, 1), (35, .iinc 4 1, 3), (38, .goto (-28), 3), (41, .iload_n 1, 1), (42, .ireturn, 1)]]
theorem zo_275 : zd_of 275 = some zI_275 := rfl
set_option maxRecDepth 100000 in
theorem zq_275 : zt_m[275]? = some (⟨"ColumnVaultLaw", "size", "([Z)I"⟩, method_14_code, 6, some (.int), [], 17, 1, 0, 1, 99999, 0) := rfl
set_option maxHeartbeats 1000000 in
def f_ColumnVaultLaw_size_10 : Nat → Int32 → Nat → Int32 → Int32 → zx_H → Option (Int32 × zx_H)
  | 0, _, _, _, _, _ => none
  | n + 1, p0, p1, p2, p3, h =>
    if p2 ≤ p3 then
      some (p0, h)
    else
      zf_b (zf_ldB p1 p3 h) fun v1 =>
      if v1 = 0 then
        (f_ColumnVaultLaw_size_10 n) (p0 + (0 : Int32)) p1 p2 (p3 + (1 : Int32)) h
      else
        (f_ColumnVaultLaw_size_10 n) (p0 + (1 : Int32)) p1 p2 (p3 + (1 : Int32)) h
set_option maxHeartbeats 4000000 in
set_option maxRecDepth 400000 in
theorem t_f_ColumnVaultLaw_size_10 {sc : (Nat × (Nat → Int32)) × Bool} {d : Nat} : ∀ (n : Nat) (p0 : Int32) (p1 : Nat) (p2 : Int32) (p3 : Int32) (h : zx_H) (r : Int32) (h' : zx_H), f_ColumnVaultLaw_size_10 n p0 p1 p2 p3 h = some (r, h') → zx_T sc d 275 (10, [(1, .int p0), (2, .ref p1), (3, .int p2), (4, .int p3)], []) h (zf_oI r) h' := by
  intro n
  induction n with
  | zero => intro p0 p1 p2 p3 h r h' hf; cases hf
  | succ n ih =>
    intro p0 p1 p2 p3 h r h' hf
    unfold f_ColumnVaultLaw_size_10 at hf
    refine zv_p (k := 2) (f' := (13, [(1, .int p0), (2, .ref p1), (3, .int p2), (4, .int p3)], [.int p2, .int p3])) zq_275 zo_275 (by with_unfolding_all rfl) ?_
    replace hf := zf_ite hf
    obtain ⟨hc, hf⟩ | ⟨hc, hf⟩ := hf
    · refine zv_brT (off := 28) (tt := 41) (r := []) zq_275 zo_275 hc rfl rfl rfl ?_
      refine zv_p (k := 1) (f' := (42, [(1, .int p0), (2, .ref p1), (3, .int p2), (4, .int p3)], [.int p0])) zq_275 zo_275 (by with_unfolding_all rfl) ?_
      cases hf
      exact zv_rn zq_275 zo_275 rfl rfl
    · refine zv_brF (off := 28) (tt := 41) (r := []) zq_275 zo_275 hc rfl rfl rfl ?_
      refine zv_p (k := 2) (f' := (19, [(1, .int p0), (2, .ref p1), (3, .int p2), (4, .int p3)], [.int p3, .ref p1])) zq_275 zo_275 (by with_unfolding_all rfl) ?_
      replace hf := zf_be hf
      obtain ⟨v1, hv, hf⟩ := hf
      refine zv_ldB zq_275 zo_275 rfl hv ?_
      refine zv_p (k := 3) (f' := (25, [(5, .int v1), (1, .int p0), (2, .ref p1), (3, .int p2), (4, .int p3)], [.int v1, .int p0])) zq_275 zo_275 (by with_unfolding_all rfl) ?_
      replace hf := zf_ite hf
      obtain ⟨hc, hf⟩ | ⟨hc, hf⟩ := hf
      · refine zv_brT (off := 7) (tt := 32) (r := [.int p0]) zq_275 zo_275 hc rfl rfl rfl ?_
        refine zv_p (k := 5) (f' := (10, [(4, .int (p3 + (1 : Int32))), (1, .int (p0 + (0 : Int32))), (5, .int v1), (2, .ref p1), (3, .int p2)], [])) zq_275 zo_275 (by with_unfolding_all rfl) ?_
        refine zv_pick (lv' := [(1, .int (p0 + (0 : Int32))), (2, .ref p1), (3, .int p2), (4, .int (p3 + (1 : Int32)))]) [1, 2, 3, 4] rfl rfl ?_
        exact ih _ _ _ _ _ _ _ hf
      · refine zv_brF (off := 7) (tt := 32) (r := [.int p0]) zq_275 zo_275 hc rfl rfl rfl ?_
        refine zv_p (k := 6) (f' := (10, [(4, .int (p3 + (1 : Int32))), (1, .int (p0 + (1 : Int32))), (5, .int v1), (2, .ref p1), (3, .int p2)], [])) zq_275 zo_275 (by with_unfolding_all rfl) ?_
        refine zv_pick (lv' := [(1, .int (p0 + (1 : Int32))), (2, .ref p1), (3, .int p2), (4, .int (p3 + (1 : Int32)))]) [1, 2, 3, 4] rfl rfl ?_
        exact ih _ _ _ _ _ _ _ hf
