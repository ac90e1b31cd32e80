set_option maxHeartbeats 1000000 in
def f_ColumnVaultLaw_isRemoved_86 : Nat → Nat → Int32 → Nat → Nat → Nat → Int32 → Int32 → Int32 → Nat → Int32 → Int32 → zx_H → Option ((Int32 ⊕ Nat) × zx_H)
  | 0, _, _, _, _, _, _, _, _, _, _, _, _ => none
  | n + 1, p0, p1, p2, p3, p4, p5, p6, p7, p8, p9, p10, h =>
    if p9 ≤ p10 then
      f_ColumnVaultLaw_isRemoved_147 zF p0 p1 p2 p3 p4 p5 p6 (0 : Int32) h
    else
      zf_b (zf_ldI p8 p10 h) fun v1 =>
      if v1 = p5 then
        (f_ColumnVaultLaw_isRemoved_86 n) p0 p1 p2 p3 p4 p5 p6 p7 p8 p9 (p10 + (1 : Int32)) h
      else
        zf_b (zf_is 12 p0 h) fun _ =>
        zf_b3 (f_ColumnVault_rowAt p0 p1 p7 h) fun v2 h3 =>
        if v1 ≤ p5 then
          if v2 = v1 then
            (f_ColumnVaultLaw_isRemoved_86 n) p0 p1 p2 p3 p4 p5 p6 (p7 + (1 : Int32)) p8 p9 (p10 + (1 : Int32)) h3
          else
            some (.inl (0 : Int32), h3)
        else
          if v2 = (v1 - (1 : Int32)) then
            (f_ColumnVaultLaw_isRemoved_86 n) p0 p1 p2 p3 p4 p5 p6 (p7 + (1 : Int32)) p8 p9 (p10 + (1 : Int32)) h3
          else
            some (.inl (0 : Int32), h3)
set_option maxHeartbeats 4000000 in
set_option maxRecDepth 400000 in
theorem t_f_ColumnVaultLaw_isRemoved_86 {sc : (Nat × (Nat → Int32)) × Bool} {d : Nat} : ∀ (n : Nat) (p0 : Nat) (p1 : Int32) (p2 : Nat) (p3 : Nat) (p4 : Nat) (p5 : Int32) (p6 : Int32) (p7 : Int32) (p8 : Nat) (p9 : Int32) (p10 : Int32) (h : zx_H) (r : (Int32 ⊕ Nat)) (h' : zx_H), f_ColumnVaultLaw_isRemoved_86 n p0 p1 p2 p3 p4 p5 p6 p7 p8 p9 p10 h = some (r, h') → zx_T sc (d + 6) 196 (86, [(0, .ref p0), (2, .int p1), (3, .ref p2), (4, .ref p3), (5, .ref p4), (6, .int p5), (7, .int p6), (8, .int p7), (9, .ref p8), (10, .int p9), (11, .int p10)], []) h (zf_oIx r) h' := by
  intro n
  induction n with
  | zero => intro p0 p1 p2 p3 p4 p5 p6 p7 p8 p9 p10 h r h' hf; cases hf
  | succ n ih =>
    intro p0 p1 p2 p3 p4 p5 p6 p7 p8 p9 p10 h r h' hf
    unfold f_ColumnVaultLaw_isRemoved_86 at hf
    refine zv_p (k := 2) (f' := (90, [(0, .ref p0), (2, .int p1), (3, .ref p2), (4, .ref p3), (5, .ref p4), (6, .int p5), (7, .int p6), (8, .int p7), (9, .ref p8), (10, .int p9), (11, .int p10)], [.int p9, .int p10])) zq_196 zo_196 (by with_unfolding_all rfl) ?_
    replace hf := zf_ite hf
    obtain ⟨hc, hf⟩ | ⟨hc, hf⟩ := hf
    · refine zv_brT (off := 54) (tt := 144) (r := []) zq_196 zo_196 hc rfl rfl rfl ?_
      refine zv_p (k := 2) (f' := (147, [(9, .int (0 : Int32)), (0, .ref p0), (2, .int p1), (3, .ref p2), (4, .ref p3), (5, .ref p4), (6, .int p5), (7, .int p6), (8, .int p7), (10, .int p9), (11, .int p10)], [])) zq_196 zo_196 (by with_unfolding_all rfl) ?_
      refine zv_pick (lv' := [(0, .ref p0), (2, .int p1), (3, .ref p2), (4, .ref p3), (5, .ref p4), (6, .int p5), (7, .int p6), (9, .int (0 : Int32))]) [0, 2, 3, 4, 5, 6, 7, 9] rfl rfl ?_
      exact t_f_ColumnVaultLaw_isRemoved_147 zF _ _ _ _ _ _ _ _ _ _ _ hf
    · refine zv_brF (off := 54) (tt := 144) (r := []) zq_196 zo_196 hc rfl rfl rfl ?_
      refine zv_p (k := 2) (f' := (97, [(0, .ref p0), (2, .int p1), (3, .ref p2), (4, .ref p3), (5, .ref p4), (6, .int p5), (7, .int p6), (8, .int p7), (9, .ref p8), (10, .int p9), (11, .int p10)], [.int p10, .ref p8])) zq_196 zo_196 (by with_unfolding_all rfl) ?_
      replace hf := zf_be hf
      obtain ⟨v1, hv, hf⟩ := hf
      refine zv_ldI zq_196 zo_196 rfl hv ?_
      refine zv_p (k := 3) (f' := (104, [(12, .int v1), (0, .ref p0), (2, .int p1), (3, .ref p2), (4, .ref p3), (5, .ref p4), (6, .int p5), (7, .int p6), (8, .int p7), (9, .ref p8), (10, .int p9), (11, .int p10)], [.int p5, .int v1])) zq_196 zo_196 (by with_unfolding_all rfl) ?_
      replace hf := zf_ite hf
      obtain ⟨hc, hf⟩ | ⟨hc, hf⟩ := hf
      · refine zv_brT (off := 34) (tt := 138) (r := []) zq_196 zo_196 hc rfl rfl rfl ?_
        refine zv_p (k := 2) (f' := (86, [(11, .int (p10 + (1 : Int32))), (12, .int v1), (0, .ref p0), (2, .int p1), (3, .ref p2), (4, .ref p3), (5, .ref p4), (6, .int p5), (7, .int p6), (8, .int p7), (9, .ref p8), (10, .int p9)], [])) zq_196 zo_196 (by with_unfolding_all rfl) ?_
        refine zv_pick (lv' := [(0, .ref p0), (2, .int p1), (3, .ref p2), (4, .ref p3), (5, .ref p4), (6, .int p5), (7, .int p6), (8, .int p7), (9, .ref p8), (10, .int p9), (11, .int (p10 + (1 : Int32)))]) [0, 2, 3, 4, 5, 6, 7, 8, 9, 10, 11] rfl rfl ?_
        exact ih _ _ _ _ _ _ _ _ _ _ _ _ _ _ hf
      · refine zv_brF (off := 34) (tt := 138) (r := []) zq_196 zo_196 hc rfl rfl rfl ?_
        refine zv_p (k := 4) (f' := (114, [(8, .int (p7 + (1 : Int32))), (12, .int v1), (0, .ref p0), (2, .int p1), (3, .ref p2), (4, .ref p3), (5, .ref p4), (6, .int p5), (7, .int p6), (9, .ref p8), (10, .int p9), (11, .int p10)], [.int p7, .int p1, .ref p0])) zq_196 zo_196 (by with_unfolding_all rfl) ?_
        replace hf := zf_be hf
        obtain ⟨_, ho, hf⟩ := hf
        replace hf := zf_b3e hf
        obtain ⟨v2, h3, hv, hf⟩ | ⟨E4, h3, hv, hf⟩ := hf
        rotate_left
        · cases hf; exact zv_cx zq_196 zo_196 rfl rfl rfl rfl rfl (zv_cv rfl rfl rfl (zf_ise ho) rfl) (t_f_ColumnVault_rowAt _ _ _ _ _ _ hv) rfl
        refine zv_c zq_196 zo_196 rfl rfl rfl rfl rfl (zv_cv rfl rfl rfl (zf_ise ho) rfl) (t_f_ColumnVault_rowAt _ _ _ _ _ _ hv) ?_
        refine zv_p (k := 2) (f' := (121, [(8, .int (p7 + (1 : Int32))), (12, .int v1), (0, .ref p0), (2, .int p1), (3, .ref p2), (4, .ref p3), (5, .ref p4), (6, .int p5), (7, .int p6), (9, .ref p8), (10, .int p9), (11, .int p10)], [.int p5, .int v1, .int v2])) zq_196 zo_196 (by with_unfolding_all rfl) ?_
        replace hf := zf_ite hf
        obtain ⟨hc, hf⟩ | ⟨hc, hf⟩ := hf
        · refine zv_brT (off := 10) (tt := 131) (r := [.int v2]) zq_196 zo_196 hc rfl rfl rfl ?_
          refine zv_p (k := 1) (f' := (133, [(8, .int (p7 + (1 : Int32))), (12, .int v1), (0, .ref p0), (2, .int p1), (3, .ref p2), (4, .ref p3), (5, .ref p4), (6, .int p5), (7, .int p6), (9, .ref p8), (10, .int p9), (11, .int p10)], [.int v1, .int v2])) zq_196 zo_196 (by with_unfolding_all rfl) ?_
          replace hf := zf_ite hf
          obtain ⟨hc, hf⟩ | ⟨hc, hf⟩ := hf
          · refine zv_brT (off := 5) (tt := 138) (r := []) zq_196 zo_196 hc rfl rfl rfl ?_
            refine zv_p (k := 2) (f' := (86, [(11, .int (p10 + (1 : Int32))), (8, .int (p7 + (1 : Int32))), (12, .int v1), (0, .ref p0), (2, .int p1), (3, .ref p2), (4, .ref p3), (5, .ref p4), (6, .int p5), (7, .int p6), (9, .ref p8), (10, .int p9)], [])) zq_196 zo_196 (by with_unfolding_all rfl) ?_
            refine zv_pick (lv' := [(0, .ref p0), (2, .int p1), (3, .ref p2), (4, .ref p3), (5, .ref p4), (6, .int p5), (7, .int p6), (8, .int (p7 + (1 : Int32))), (9, .ref p8), (10, .int p9), (11, .int (p10 + (1 : Int32)))]) [0, 2, 3, 4, 5, 6, 7, 8, 9, 10, 11] rfl rfl ?_
            exact ih _ _ _ _ _ _ _ _ _ _ _ _ _ _ hf
          · refine zv_brF (off := 5) (tt := 138) (r := []) zq_196 zo_196 hc rfl rfl rfl ?_
            refine zv_p (k := 1) (f' := (137, [(8, .int (p7 + (1 : Int32))), (12, .int v1), (0, .ref p0), (2, .int p1), (3, .ref p2), (4, .ref p3), (5, .ref p4), (6, .int p5), (7, .int p6), (9, .ref p8), (10, .int p9), (11, .int p10)], [.int (0 : Int32)])) zq_196 zo_196 (by with_unfolding_all rfl) ?_
            cases hf
            exact zv_rn zq_196 zo_196 rfl rfl
        · refine zv_brF (off := 10) (tt := 131) (r := [.int v2]) zq_196 zo_196 hc rfl rfl rfl ?_
          refine zv_p (k := 4) (f' := (133, [(8, .int (p7 + (1 : Int32))), (12, .int v1), (0, .ref p0), (2, .int p1), (3, .ref p2), (4, .ref p3), (5, .ref p4), (6, .int p5), (7, .int p6), (9, .ref p8), (10, .int p9), (11, .int p10)], [.int (v1 - (1 : Int32)), .int v2])) zq_196 zo_196 (by with_unfolding_all rfl) ?_
          replace hf := zf_ite hf
          obtain ⟨hc, hf⟩ | ⟨hc, hf⟩ := hf
          · refine zv_brT (off := 5) (tt := 138) (r := []) zq_196 zo_196 hc rfl rfl rfl ?_
            refine zv_p (k := 2) (f' := (86, [(11, .int (p10 + (1 : Int32))), (8, .int (p7 + (1 : Int32))), (12, .int v1), (0, .ref p0), (2, .int p1), (3, .ref p2), (4, .ref p3), (5, .ref p4), (6, .int p5), (7, .int p6), (9, .ref p8), (10, .int p9)], [])) zq_196 zo_196 (by with_unfolding_all rfl) ?_
            refine zv_pick (lv' := [(0, .ref p0), (2, .int p1), (3, .ref p2), (4, .ref p3), (5, .ref p4), (6, .int p5), (7, .int p6), (8, .int (p7 + (1 : Int32))), (9, .ref p8), (10, .int p9), (11, .int (p10 + (1 : Int32)))]) [0, 2, 3, 4, 5, 6, 7, 8, 9, 10, 11] rfl rfl ?_
            exact ih _ _ _ _ _ _ _ _ _ _ _ _ _ _ hf
          · refine zv_brF (off := 5) (tt := 138) (r := []) zq_196 zo_196 hc rfl rfl rfl ?_
            refine zv_p (k := 1) (f' := (137, [(8, .int (p7 + (1 : Int32))), (12, .int v1), (0, .ref p0), (2, .int p1), (3, .ref p2), (4, .ref p3), (5, .ref p4), (6, .int p5), (7, .int p6), (9, .ref p8), (10, .int p9), (11, .int p10)], [.int (0 : Int32)])) zq_196 zo_196 (by with_unfolding_all rfl) ?_
            cases hf
            exact zv_rn zq_196 zo_196 rfl rfl
set_option maxHeartbeats 1000000 in
def f_ColumnVaultLaw_isRemoved (p0 : Nat) (p1 : Nat) (p2 : Int32) (h : zx_H) : Option ((Int32 ⊕ Nat) × zx_H) :=
  zf_b (zf_is 12 p0 h) fun _ =>
  zf_b3 (f_ColumnVault_size p0 p2 (0 : Int32) h) fun v1 h2 =>
  if ¬ v1 = 0 then
    zf_b3 (f_ColumnVaultLaw_order p0 p2 h2) fun v4 h5 =>
    zf_b3 (f_ColumnVaultLaw_choice p0 p2 h5) fun v7 h8 =>
    zf_b3 (f_ColumnVaultLaw_rows p0 p2 h8) fun v10 h11 =>
    zf_b (zf_len v4 h11) fun v13 =>
    zf_b2 (f_ColumnVaultLaw_draw p1 v13 h11) fun v14 h15 =>
    zf_b (zf_is 12 p0 h15) fun _ =>
    zf_b2 (f_ColumnVault_version p0 h15) fun v16 h17 =>
    zf_b (zf_is 12 p0 h17) fun _ =>
    zf_b3 (f_ColumnVault_remove p0 p2 v14 h17) fun v18 h19 =>
    zf_b (zf_len v4 h19) fun v21 =>
    if ¬ v18 = (v21 - (1 : Int32)) then
      some (.inl (0 : Int32), h19)
    else
      zf_b (zf_is 12 p0 h19) fun _ =>
      zf_b2 (f_ColumnVault_version p0 h19) fun v22 h23 =>
      if v22 = (v16 + (1 : Int32)) then
        zf_b (zf_len v4 h23) fun v24 =>
        f_ColumnVaultLaw_isRemoved_86 zF p0 p2 v4 v7 v10 v14 v16 (0 : Int32) v4 v24 (0 : Int32) h23
      else
        some (.inl (0 : Int32), h23)
  else
    some (.inl (1 : Int32), h2)
set_option maxHeartbeats 4000000 in
set_option maxRecDepth 400000 in
theorem t_f_ColumnVaultLaw_isRemoved {sc : (Nat × (Nat → Int32)) × Bool} {d : Nat} (p0 : Nat) (p1 : Nat) (p2 : Int32) (h : zx_H) (r : (Int32 ⊕ Nat)) (h' : zx_H) (hf : f_ColumnVaultLaw_isRemoved p0 p1 p2 h = some (r, h')) : zx_T sc (d + 6) 196 (0, [(0, .ref p0), (1, .ref p1), (2, .int p2)], []) h (zf_oIx r) h' := by
  unfold f_ColumnVaultLaw_isRemoved at hf
  refine zv_p (k := 3) (f' := (3, [(0, .ref p0), (1, .ref p1), (2, .int p2)], [.int (0 : Int32), .int p2, .ref p0])) zq_196 zo_196 (by with_unfolding_all rfl) ?_
  replace hf := zf_be hf
  obtain ⟨_, ho, hf⟩ := hf
  replace hf := zf_b3e hf
  obtain ⟨v1, h2, hv, hf⟩ | ⟨E3, h2, hv, hf⟩ := hf
  rotate_left
  · cases hf; exact zv_cx zq_196 zo_196 rfl rfl rfl rfl rfl (zv_cv rfl rfl rfl (zf_ise ho) rfl) (t_f_ColumnVault_size _ _ _ _ _ _ hv) rfl
  refine zv_c zq_196 zo_196 rfl rfl rfl rfl rfl (zv_cv rfl rfl rfl (zf_ise ho) rfl) (t_f_ColumnVault_size _ _ _ _ _ _ hv) ?_
  replace hf := zf_ite hf
  obtain ⟨hc, hf⟩ | ⟨hc, hf⟩ := hf
  · refine zv_brT (off := 5) (tt := 11) (r := []) zq_196 zo_196 hc rfl rfl rfl ?_
    refine zv_p (k := 2) (f' := (13, [(0, .ref p0), (1, .ref p1), (2, .int p2)], [.int p2, .ref p0])) zq_196 zo_196 (by with_unfolding_all rfl) ?_
    replace hf := zf_b3e hf
    obtain ⟨v4, h5, hv, hf⟩ | ⟨E6, h5, hv, hf⟩ := hf
    rotate_left
    · cases hf; exact zv_cx zq_196 zo_196 rfl rfl rfl rfl rfl rfl (t_f_ColumnVaultLaw_order _ _ _ _ _ hv) rfl
    refine zv_c zq_196 zo_196 rfl rfl rfl rfl rfl rfl (t_f_ColumnVaultLaw_order _ _ _ _ _ hv) ?_
    refine zv_p (k := 3) (f' := (19, [(3, .ref v4), (0, .ref p0), (1, .ref p1), (2, .int p2)], [.int p2, .ref p0])) zq_196 zo_196 (by with_unfolding_all rfl) ?_
    replace hf := zf_b3e hf
    obtain ⟨v7, h8, hv, hf⟩ | ⟨E9, h8, hv, hf⟩ := hf
    rotate_left
    · cases hf; exact zv_cx zq_196 zo_196 rfl rfl rfl rfl rfl rfl (t_f_ColumnVaultLaw_choice _ _ _ _ _ hv) rfl
    refine zv_c zq_196 zo_196 rfl rfl rfl rfl rfl rfl (t_f_ColumnVaultLaw_choice _ _ _ _ _ hv) ?_
    refine zv_p (k := 3) (f' := (26, [(4, .ref v7), (3, .ref v4), (0, .ref p0), (1, .ref p1), (2, .int p2)], [.int p2, .ref p0])) zq_196 zo_196 (by with_unfolding_all rfl) ?_
    replace hf := zf_b3e hf
    obtain ⟨v10, h11, hv, hf⟩ | ⟨E12, h11, hv, hf⟩ := hf
    rotate_left
    · cases hf; exact zv_cx zq_196 zo_196 rfl rfl rfl rfl rfl rfl (t_f_ColumnVaultLaw_rows _ _ _ _ _ hv) rfl
    refine zv_c zq_196 zo_196 rfl rfl rfl rfl rfl rfl (t_f_ColumnVaultLaw_rows _ _ _ _ _ hv) ?_
    refine zv_p (k := 3) (f' := (33, [(5, .ref v10), (4, .ref v7), (3, .ref v4), (0, .ref p0), (1, .ref p1), (2, .int p2)], [.ref v4, .ref p1])) zq_196 zo_196 (by with_unfolding_all rfl) ?_
    replace hf := zf_be hf
    obtain ⟨v13, hv, hf⟩ := hf
    refine zv_len zq_196 zo_196 rfl hv ?_
    replace hf := zf_b2e hf
    obtain ⟨v14, h15, hv, hf⟩ := hf
    refine zv_c zq_196 zo_196 rfl rfl rfl rfl rfl rfl (t_f_ColumnVaultLaw_draw _ _ _ _ _ hv) ?_
    refine zv_p (k := 2) (f' := (40, [(6, .int v14), (5, .ref v10), (4, .ref v7), (3, .ref v4), (0, .ref p0), (1, .ref p1), (2, .int p2)], [.ref p0])) zq_196 zo_196 (by with_unfolding_all rfl) ?_
    replace hf := zf_be hf
    obtain ⟨_, ho, hf⟩ := hf
    replace hf := zf_b2e hf
    obtain ⟨v16, h17, hv, hf⟩ := hf
    refine zv_c zq_196 zo_196 rfl rfl rfl rfl rfl (zv_cv rfl rfl rfl (zf_ise ho) rfl) (t_f_ColumnVault_version _ _ _ _ hv) ?_
    refine zv_p (k := 4) (f' := (49, [(7, .int v16), (6, .int v14), (5, .ref v10), (4, .ref v7), (3, .ref v4), (0, .ref p0), (1, .ref p1), (2, .int p2)], [.int v14, .int p2, .ref p0])) zq_196 zo_196 (by with_unfolding_all rfl) ?_
    replace hf := zf_be hf
    obtain ⟨_, ho, hf⟩ := hf
    replace hf := zf_b3e hf
    obtain ⟨v18, h19, hv, hf⟩ | ⟨E20, h19, hv, hf⟩ := hf
    rotate_left
    · cases hf; exact zv_cx zq_196 zo_196 rfl rfl rfl rfl rfl (zv_cv rfl rfl rfl (zf_ise ho) rfl) (t_f_ColumnVault_remove _ _ _ _ _ _ hv) rfl
    refine zv_c zq_196 zo_196 rfl rfl rfl rfl rfl (zv_cv rfl rfl rfl (zf_ise ho) rfl) (t_f_ColumnVault_remove _ _ _ _ _ _ hv) ?_
    refine zv_p (k := 1) (f' := (53, [(7, .int v16), (6, .int v14), (5, .ref v10), (4, .ref v7), (3, .ref v4), (0, .ref p0), (1, .ref p1), (2, .int p2)], [.ref v4, .int v18])) zq_196 zo_196 (by with_unfolding_all rfl) ?_
    replace hf := zf_be hf
    obtain ⟨v21, hv, hf⟩ := hf
    refine zv_len zq_196 zo_196 rfl hv ?_
    refine zv_p (k := 2) (f' := (56, [(7, .int v16), (6, .int v14), (5, .ref v10), (4, .ref v7), (3, .ref v4), (0, .ref p0), (1, .ref p1), (2, .int p2)], [.int (v21 - (1 : Int32)), .int v18])) zq_196 zo_196 (by with_unfolding_all rfl) ?_
    replace hf := zf_ite hf
    obtain ⟨hc, hf⟩ | ⟨hc, hf⟩ := hf
    · refine zv_brT (off := 14) (tt := 70) (r := []) zq_196 zo_196 hc rfl rfl rfl ?_
      refine zv_p (k := 1) (f' := (71, [(7, .int v16), (6, .int v14), (5, .ref v10), (4, .ref v7), (3, .ref v4), (0, .ref p0), (1, .ref p1), (2, .int p2)], [.int (0 : Int32)])) zq_196 zo_196 (by with_unfolding_all rfl) ?_
      cases hf
      exact zv_rn zq_196 zo_196 rfl rfl
    · refine zv_brF (off := 14) (tt := 70) (r := []) zq_196 zo_196 hc rfl rfl rfl ?_
      refine zv_p (k := 1) (f' := (60, [(7, .int v16), (6, .int v14), (5, .ref v10), (4, .ref v7), (3, .ref v4), (0, .ref p0), (1, .ref p1), (2, .int p2)], [.ref p0])) zq_196 zo_196 (by with_unfolding_all rfl) ?_
      replace hf := zf_be hf
      obtain ⟨_, ho, hf⟩ := hf
      replace hf := zf_b2e hf
      obtain ⟨v22, h23, hv, hf⟩ := hf
      refine zv_c zq_196 zo_196 rfl rfl rfl rfl rfl (zv_cv rfl rfl rfl (zf_ise ho) rfl) (t_f_ColumnVault_version _ _ _ _ hv) ?_
      refine zv_p (k := 3) (f' := (67, [(7, .int v16), (6, .int v14), (5, .ref v10), (4, .ref v7), (3, .ref v4), (0, .ref p0), (1, .ref p1), (2, .int p2)], [.int (v16 + (1 : Int32)), .int v22])) zq_196 zo_196 (by with_unfolding_all rfl) ?_
      replace hf := zf_ite hf
      obtain ⟨hc, hf⟩ | ⟨hc, hf⟩ := hf
      · refine zv_brT (off := 5) (tt := 72) (r := []) zq_196 zo_196 hc rfl rfl rfl ?_
        refine zv_p (k := 5) (f' := (80, [(9, .ref v4), (8, .int (0 : Int32)), (7, .int v16), (6, .int v14), (5, .ref v10), (4, .ref v7), (3, .ref v4), (0, .ref p0), (1, .ref p1), (2, .int p2)], [.ref v4])) zq_196 zo_196 (by with_unfolding_all rfl) ?_
        replace hf := zf_be hf
        obtain ⟨v24, hv, hf⟩ := hf
        refine zv_len zq_196 zo_196 rfl hv ?_
        refine zv_p (k := 3) (f' := (86, [(11, .int (0 : Int32)), (10, .int v24), (9, .ref v4), (8, .int (0 : Int32)), (7, .int v16), (6, .int v14), (5, .ref v10), (4, .ref v7), (3, .ref v4), (0, .ref p0), (1, .ref p1), (2, .int p2)], [])) zq_196 zo_196 (by with_unfolding_all rfl) ?_
        refine zv_pick (lv' := [(0, .ref p0), (2, .int p2), (3, .ref v4), (4, .ref v7), (5, .ref v10), (6, .int v14), (7, .int v16), (8, .int (0 : Int32)), (9, .ref v4), (10, .int v24), (11, .int (0 : Int32))]) [0, 2, 3, 4, 5, 6, 7, 8, 9, 10, 11] rfl rfl ?_
        exact t_f_ColumnVaultLaw_isRemoved_86 zF _ _ _ _ _ _ _ _ _ _ _ _ _ _ hf
      · refine zv_brF (off := 5) (tt := 72) (r := []) zq_196 zo_196 hc rfl rfl rfl ?_
        refine zv_p (k := 1) (f' := (71, [(7, .int v16), (6, .int v14), (5, .ref v10), (4, .ref v7), (3, .ref v4), (0, .ref p0), (1, .ref p1), (2, .int p2)], [.int (0 : Int32)])) zq_196 zo_196 (by with_unfolding_all rfl) ?_
        cases hf
        exact zv_rn zq_196 zo_196 rfl rfl
  · refine zv_brF (off := 5) (tt := 11) (r := []) zq_196 zo_196 hc rfl rfl rfl ?_
    refine zv_p (k := 1) (f' := (10, [(0, .ref p0), (1, .ref p1), (2, .int p2)], [.int (1 : Int32)])) zq_196 zo_196 (by with_unfolding_all rfl) ?_
    cases hf
    exact zv_rn zq_196 zo_196 rfl rfl
/-! ColumnVault.isAhead (JJZZ)Z -/
noncomputable def zI_206 : zd_T := [[(0, .lload_n 0, 1), (1, .lload_n 2, 1), (2, .lcmp, 1), (3, .ifCond .ne 5, 3), (6, .iconst 0, 1), (7, .ireturn, 1), (8, .lload_n 0, 1), (9, .ldc2_w 112, 3), (12, .lcmp, 1), (13, .ifCond .ne 6, 3), (16, .iload 5, 2), (18, .ireturn, 1), (19, .lload_n 2, 1), (20, .ldc2_w 112, 3), (23, .lcmp, 1), (24, .ifCond .ne 14, 3), (27, .iload 5, 2), (29, .ifCond .ne 7, 3)], [(32, .iconst 1, 1), (33, .goto 4, 3), (36, .iconst 0, 1), (37, .ireturn, 1), (38, .iload 4, 2), (40, .ifCond .eq 17, 3), (43, .lload_n 0, 1), (44, .lload_n 2, 1), (45, .lcmp, 1), (46, .ifCond .le 7, 3), (49, .iconst 1, 1), (50, .goto 18, 3), (53, .iconst 0, 1), (54, .goto 14, 3), (57, .lload_n 0, 1), (58, .lload_n 2, 1), (59, .lcmp, 1), (60, .ifCond .ge 7, 3), (63, .iconst 1, 1)], [(64, .goto 4, 3), (67, .iconst 0, 1), (68, .ireturn, 1)]]
theorem zo_206 : zd_of 206 = some zI_206 := rfl
set_option maxRecDepth 100000 in
theorem zq_206 : zt_m[206]? = some (⟨"ColumnVault", "isAhead", "(JJZZ)Z"⟩, prog_1_method_59_code, 6, some (.boolean), [], 12, 4, 0, 1, 99999, 0) := rfl
set_option maxHeartbeats 1000000 in
def f_ColumnVault_isAhead (p0 : Int64) (p1 : Int64) (p2 : Int32) (p3 : Int32) (h : zx_H) : Option (Int32 × zx_H) :=
  if ¬ p0 = p1 then
    if ¬ p0 = (-9000000000 : Int64) then
      if ¬ p1 = (-9000000000 : Int64) then
        if p2 = 0 then
          if p1 ≤ p0 then
            some ((0 : Int32), h)
          else
            some ((1 : Int32), h)
        else
          if p0 ≤ p1 then
            some ((0 : Int32), h)
          else
            some ((1 : Int32), h)
      else
        if ¬ p3 = 0 then
          some ((0 : Int32), h)
        else
          some ((1 : Int32), h)
    else
      if narrow .boolean (.int p3) = .int p3 then some (p3, h) else none
  else
    some ((0 : Int32), h)
set_option maxHeartbeats 4000000 in
set_option maxRecDepth 400000 in
theorem t_f_ColumnVault_isAhead {sc : (Nat × (Nat → Int32)) × Bool} {d : Nat} (p0 : Int64) (p1 : Int64) (p2 : Int32) (p3 : Int32) (h : zx_H) (r : Int32) (h' : zx_H) (hf : f_ColumnVault_isAhead p0 p1 p2 p3 h = some (r, h')) : zx_T sc d 206 (0, [(0, .long p0), (2, .long p1), (4, .int p2), (5, .int p3)], []) h (zf_oI r) h' := by
  unfold f_ColumnVault_isAhead at hf
  refine zv_p (k := 3) (f' := (3, [(0, .long p0), (2, .long p1), (4, .int p2), (5, .int p3)], [.int (lg_cmp p0 p1)])) zq_206 zo_206 (by with_unfolding_all rfl) ?_
  replace hf := zf_ite hf
  obtain ⟨hc, hf⟩ | ⟨hc, hf⟩ := hf
  · refine zv_brT (off := 5) (tt := 8) (r := []) zq_206 zo_206 (zl_ne.mpr hc) rfl rfl rfl ?_
    refine zv_p (k := 1) (f' := (9, [(0, .long p0), (2, .long p1), (4, .int p2), (5, .int p3)], [.long p0])) zq_206 zo_206 (by with_unfolding_all rfl) ?_
    refine zv_lng zq_206 zo_206 rfl rfl ?_
    refine zv_p (k := 1) (f' := (13, [(0, .long p0), (2, .long p1), (4, .int p2), (5, .int p3)], [.int (lg_cmp p0 (-9000000000 : Int64))])) zq_206 zo_206 (by with_unfolding_all rfl) ?_
    replace hf := zf_ite hf
    obtain ⟨hc, hf⟩ | ⟨hc, hf⟩ := hf
    · refine zv_brT (off := 6) (tt := 19) (r := []) zq_206 zo_206 (zl_ne.mpr hc) rfl rfl rfl ?_
      refine zv_p (k := 1) (f' := (20, [(0, .long p0), (2, .long p1), (4, .int p2), (5, .int p3)], [.long p1])) zq_206 zo_206 (by with_unfolding_all rfl) ?_
      refine zv_lng zq_206 zo_206 rfl rfl ?_
      refine zv_p (k := 1) (f' := (24, [(0, .long p0), (2, .long p1), (4, .int p2), (5, .int p3)], [.int (lg_cmp p1 (-9000000000 : Int64))])) zq_206 zo_206 (by with_unfolding_all rfl) ?_
      replace hf := zf_ite hf
      obtain ⟨hc, hf⟩ | ⟨hc, hf⟩ := hf
      · refine zv_brT (off := 14) (tt := 38) (r := []) zq_206 zo_206 (zl_ne.mpr hc) rfl rfl rfl ?_
        refine zv_p (k := 1) (f' := (40, [(0, .long p0), (2, .long p1), (4, .int p2), (5, .int p3)], [.int p2])) zq_206 zo_206 (by with_unfolding_all rfl) ?_
        replace hf := zf_ite hf
        obtain ⟨hc, hf⟩ | ⟨hc, hf⟩ := hf
        · refine zv_brT (off := 17) (tt := 57) (r := []) zq_206 zo_206 hc rfl rfl rfl ?_
          refine zv_p (k := 3) (f' := (60, [(0, .long p0), (2, .long p1), (4, .int p2), (5, .int p3)], [.int (lg_cmp p0 p1)])) zq_206 zo_206 (by with_unfolding_all rfl) ?_
          replace hf := zf_ite hf
          obtain ⟨hc, hf⟩ | ⟨hc, hf⟩ := hf
          · refine zv_brT (off := 7) (tt := 67) (r := []) zq_206 zo_206 (zl_ge.mpr hc) rfl rfl rfl ?_
            refine zv_p (k := 1) (f' := (68, [(0, .long p0), (2, .long p1), (4, .int p2), (5, .int p3)], [.int (0 : Int32)])) zq_206 zo_206 (by with_unfolding_all rfl) ?_
            cases hf
            exact zv_rn zq_206 zo_206 rfl rfl
          · refine zv_brF (off := 7) (tt := 67) (r := []) zq_206 zo_206 (mt zl_ge.mp hc) rfl rfl rfl ?_
            refine zv_p (k := 2) (f' := (68, [(0, .long p0), (2, .long p1), (4, .int p2), (5, .int p3)], [.int (1 : Int32)])) zq_206 zo_206 (by with_unfolding_all rfl) ?_
            cases hf
            exact zv_rn zq_206 zo_206 rfl rfl
        · refine zv_brF (off := 17) (tt := 57) (r := []) zq_206 zo_206 hc rfl rfl rfl ?_
          refine zv_p (k := 3) (f' := (46, [(0, .long p0), (2, .long p1), (4, .int p2), (5, .int p3)], [.int (lg_cmp p0 p1)])) zq_206 zo_206 (by with_unfolding_all rfl) ?_
          replace hf := zf_ite hf
          obtain ⟨hc, hf⟩ | ⟨hc, hf⟩ := hf
          · refine zv_brT (off := 7) (tt := 53) (r := []) zq_206 zo_206 (zl_le.mpr hc) rfl rfl rfl ?_
            refine zv_p (k := 2) (f' := (68, [(0, .long p0), (2, .long p1), (4, .int p2), (5, .int p3)], [.int (0 : Int32)])) zq_206 zo_206 (by with_unfolding_all rfl) ?_
            cases hf
            exact zv_rn zq_206 zo_206 rfl rfl
          · refine zv_brF (off := 7) (tt := 53) (r := []) zq_206 zo_206 (mt zl_le.mp hc) rfl rfl rfl ?_
            refine zv_p (k := 2) (f' := (68, [(0, .long p0), (2, .long p1), (4, .int p2), (5, .int p3)], [.int (1 : Int32)])) zq_206 zo_206 (by with_unfolding_all rfl) ?_
            cases hf
            exact zv_rn zq_206 zo_206 rfl rfl
      · refine zv_brF (off := 14) (tt := 38) (r := []) zq_206 zo_206 (mt zl_ne.mp hc) rfl rfl rfl ?_
        refine zv_p (k := 1) (f' := (29, [(0, .long p0), (2, .long p1), (4, .int p2), (5, .int p3)], [.int p3])) zq_206 zo_206 (by with_unfolding_all rfl) ?_
        replace hf := zf_ite hf
        obtain ⟨hc, hf⟩ | ⟨hc, hf⟩ := hf
        · refine zv_brT (off := 7) (tt := 36) (r := []) zq_206 zo_206 hc rfl rfl rfl ?_
          refine zv_p (k := 1) (f' := (37, [(0, .long p0), (2, .long p1), (4, .int p2), (5, .int p3)], [.int (0 : Int32)])) zq_206 zo_206 (by with_unfolding_all rfl) ?_
          cases hf
          exact zv_rn zq_206 zo_206 rfl rfl
        · refine zv_brF (off := 7) (tt := 36) (r := []) zq_206 zo_206 hc rfl rfl rfl ?_
          refine zv_p (k := 2) (f' := (37, [(0, .long p0), (2, .long p1), (4, .int p2), (5, .int p3)], [.int (1 : Int32)])) zq_206 zo_206 (by with_unfolding_all rfl) ?_
          cases hf
          exact zv_rn zq_206 zo_206 rfl rfl
    · refine zv_brF (off := 6) (tt := 19) (r := []) zq_206 zo_206 (mt zl_ne.mp hc) rfl rfl rfl ?_
      refine zv_p (k := 1) (f' := (18, [(0, .long p0), (2, .long p1), (4, .int p2), (5, .int p3)], [.int p3])) zq_206 zo_206 (by with_unfolding_all rfl) ?_
      replace hf := zf_ite hf
      obtain ⟨hc, hf⟩ | ⟨hc, hf⟩ := hf
      · cases hf; exact zv_rn zq_206 zo_206 rfl hc
      · cases hf
  · refine zv_brF (off := 5) (tt := 8) (r := []) zq_206 zo_206 (mt zl_ne.mp hc) rfl rfl rfl ?_
    refine zv_p (k := 1) (f' := (7, [(0, .long p0), (2, .long p1), (4, .int p2), (5, .int p3)], [.int (0 : Int32)])) zq_206 zo_206 (by with_unfolding_all rfl) ?_
    cases hf
    exact zv_rn zq_206 zo_206 rfl rfl
/-! ColumnVault$Sheet.orderBy (IZZ)V -/
noncomputable def zI_205 : zd_T := [[(0, .iconst 1, 1), (1, .istore 4, 2), (3, .iload 4, 2), (5, .aload_n 0, 1), (6, .getfield 26, 3), (9, .if_icmp .ge 91, 3), (12, .aload_n 0, 1), (13, .getfield 19, 3), (16, .iload 4, 2), (18, .iaload, 1), (19, .istore 5, 2), (21, .aload_n 0, 1), (22, .iload_n 1, 1), (23, .iload 5, 2), (25, .invokevirtual 52, 3), (28, .lstore 6, 2), (30, .iload 4, 2)], [(32, .istore 8, 2), (34, .iload 8, 2), (36, .ifCond .le 49, 3), (39, .lload 6, 2), (41, .aload_n 0, 1), (42, .iload_n 1, 1), (43, .aload_n 0, 1), (44, .getfield 19, 3), (47, .iload 8, 2), (49, .iconst 1, 1), (50, .isub, 1), (51, .iaload, 1), (52, .invokevirtual 52, 3), (55, .iload_n 2, 1), (56, .iload_n 3, 1), (57, .invokestatic 82, 3), (60, .ifCond .eq 25, 3), (63, .aload_n 0, 1)], [(64, .getfield 19, 3), (67, .iload 8, 2), (69, .aload_n 0, 1), (70, .getfield 19, 3), (73, .iload 8, 2), (75, .iconst 1, 1), (76, .isub, 1), (77, .iaload, 1), (78, .iastore, 1), (79, .iinc 8 (-1), 3), (82, .goto (-48), 3), (85, .aload_n 0, 1), (86, .getfield 19, 3), (89, .iload 8, 2), (91, .iload 5, 2), (93, .iastore, 1), (94, .iinc 4 1, 3)], [(97, .goto (-94), 3), (100, .return_, 1)]]
theorem zo_205 : zd_of 205 = some zI_205 := rfl
set_option maxRecDepth 100000 in
theorem zq_205 : zt_m[205]? = some (⟨"ColumnVault$Sheet", "orderBy", "(IZZ)V"⟩, prog_10_method_18_code, 9, none, [], 10, 3, 0, 0, 0, 0) := rfl
set_option maxHeartbeats 1000000 in
def f_Sheet_orderBy_34 (k3 : Nat → Int32 → Int32 → Int32 → Int32 → zx_H → Option (Unit × zx_H)) : Nat → Nat → Int32 → Int32 → Int32 → Int32 → Int32 → Int64 → Int32 → zx_H → Option (Unit × zx_H)
  | 0, _, _, _, _, _, _, _, _, _ => none
  | n + 1, p0, p1, p2, p3, p4, p5, p6, p7, h =>
    if p7 ≤ 0 then
      zf_b (zf_A 10 2 p0 h) fun v1 =>
      zf_b (zf_stI v1 p7 p5 h) fun h2 =>
      k3 p0 p1 p2 p3 (p4 + (1 : Int32)) h2
    else
      zf_b (zf_A 10 2 p0 h) fun v3 =>
      zf_b (zf_ldI v3 (p7 - (1 : Int32)) h) fun v4 =>
      zf_b (zf_is 10 p0 h) fun _ =>
      zf_b2 (f_Sheet_keyAt p0 p1 v4 h) fun v5 h6 =>
      zf_b2 (f_ColumnVault_isAhead p6 v5 p2 p3 h6) fun v7 h8 =>
      if v7 = 0 then
        zf_b (zf_A 10 2 p0 h8) fun v9 =>
        zf_b (zf_stI v9 p7 p5 h8) fun h10 =>
        k3 p0 p1 p2 p3 (p4 + (1 : Int32)) h10
      else
        zf_b (zf_A 10 2 p0 h8) fun v11 =>
        zf_b (zf_A 10 2 p0 h8) fun v12 =>
        zf_b (zf_ldI v12 (p7 - (1 : Int32)) h8) fun v13 =>
        zf_b (zf_stI v11 p7 v13 h8) fun h14 =>
        (f_Sheet_orderBy_34 k3 n) p0 p1 p2 p3 p4 p5 p6 (p7 + (-1 : Int32)) h14
set_option maxHeartbeats 4000000 in
set_option maxRecDepth 400000 in
theorem t_f_Sheet_orderBy_34 {sc : (Nat × (Nat → Int32)) × Bool} {d : Nat} {k3 : Nat → Int32 → Int32 → Int32 → Int32 → zx_H → Option (Unit × zx_H)} (hk3 : ∀ (a0 : Nat) (a1 : Int32) (a2 : Int32) (a3 : Int32) (a4 : Int32) (h : zx_H) (r : Unit) (h' : zx_H), k3 a0 a1 a2 a3 a4 h = some (r, h') → zx_T sc (d + 1) 205 (3, [(0, .ref a0), (1, .int a1), (2, .int a2), (3, .int a3), (4, .int a4)], []) h (zf_oV r) h') : ∀ (n : Nat) (p0 : Nat) (p1 : Int32) (p2 : Int32) (p3 : Int32) (p4 : Int32) (p5 : Int32) (p6 : Int64) (p7 : Int32) (h : zx_H) (r : Unit) (h' : zx_H), f_Sheet_orderBy_34 k3 n p0 p1 p2 p3 p4 p5 p6 p7 h = some (r, h') → zx_T sc (d + 1) 205 (34, [(0, .ref p0), (1, .int p1), (2, .int p2), (3, .int p3), (4, .int p4), (5, .int p5), (6, .long p6), (8, .int p7)], []) h (zf_oV r) h' := by
  intro n
  induction n with
  | zero => intro p0 p1 p2 p3 p4 p5 p6 p7 h r h' hf; cases hf
  | succ n ih =>
    intro p0 p1 p2 p3 p4 p5 p6 p7 h r h' hf
    unfold f_Sheet_orderBy_34 at hf
    refine zv_p (k := 1) (f' := (36, [(0, .ref p0), (1, .int p1), (2, .int p2), (3, .int p3), (4, .int p4), (5, .int p5), (6, .long p6), (8, .int p7)], [.int p7])) zq_205 zo_205 (by with_unfolding_all rfl) ?_
    replace hf := zf_ite hf
    obtain ⟨hc, hf⟩ | ⟨hc, hf⟩ := hf
    · refine zv_brT (off := 49) (tt := 85) (r := []) zq_205 zo_205 hc rfl rfl rfl ?_
      refine zv_p (k := 1) (f' := (86, [(0, .ref p0), (1, .int p1), (2, .int p2), (3, .int p3), (4, .int p4), (5, .int p5), (6, .long p6), (8, .int p7)], [.ref p0])) zq_205 zo_205 (by with_unfolding_all rfl) ?_
      replace hf := zf_be hf
      obtain ⟨v1, hv, hf⟩ := hf
      refine zv_gf zq_205 zo_205 rfl rfl rfl (zf_Ae hv) ?_
      refine zv_p (k := 2) (f' := (93, [(0, .ref p0), (1, .int p1), (2, .int p2), (3, .int p3), (4, .int p4), (5, .int p5), (6, .long p6), (8, .int p7)], [.int p5, .int p7, .ref v1])) zq_205 zo_205 (by with_unfolding_all rfl) ?_
      replace hf := zf_be hf
      obtain ⟨h2, hv, hf⟩ := hf
      refine zv_stI zq_205 zo_205 rfl hv ?_
      refine zv_p (k := 2) (f' := (3, [(4, .int (p4 + (1 : Int32))), (0, .ref p0), (1, .int p1), (2, .int p2), (3, .int p3), (5, .int p5), (6, .long p6), (8, .int p7)], [])) zq_205 zo_205 (by with_unfolding_all rfl) ?_
      refine zv_pick (lv' := [(0, .ref p0), (1, .int p1), (2, .int p2), (3, .int p3), (4, .int (p4 + (1 : Int32)))]) [0, 1, 2, 3, 4] rfl rfl ?_
      exact hk3 _ _ _ _ _ _ _ _ hf
    · refine zv_brF (off := 49) (tt := 85) (r := []) zq_205 zo_205 hc rfl rfl rfl ?_
      refine zv_p (k := 4) (f' := (44, [(0, .ref p0), (1, .int p1), (2, .int p2), (3, .int p3), (4, .int p4), (5, .int p5), (6, .long p6), (8, .int p7)], [.ref p0, .int p1, .ref p0, .long p6])) zq_205 zo_205 (by with_unfolding_all rfl) ?_
      replace hf := zf_be hf
      obtain ⟨v3, hv, hf⟩ := hf
      refine zv_gf zq_205 zo_205 rfl rfl rfl (zf_Ae hv) ?_
      refine zv_p (k := 3) (f' := (51, [(0, .ref p0), (1, .int p1), (2, .int p2), (3, .int p3), (4, .int p4), (5, .int p5), (6, .long p6), (8, .int p7)], [.int (p7 - (1 : Int32)), .ref v3, .int p1, .ref p0, .long p6])) zq_205 zo_205 (by with_unfolding_all rfl) ?_
      replace hf := zf_be hf
      obtain ⟨v4, hv, hf⟩ := hf
      refine zv_ldI zq_205 zo_205 rfl hv ?_
      replace hf := zf_be hf
      obtain ⟨_, ho, hf⟩ := hf
      replace hf := zf_b2e hf
      obtain ⟨v5, h6, hv, hf⟩ := hf
      refine zv_c zq_205 zo_205 rfl rfl rfl rfl rfl (zv_cv rfl rfl rfl (zf_ise ho) rfl) (t_f_Sheet_keyAt _ _ _ _ _ _ hv) ?_
      refine zv_p (k := 2) (f' := (57, [(0, .ref p0), (1, .int p1), (2, .int p2), (3, .int p3), (4, .int p4), (5, .int p5), (6, .long p6), (8, .int p7)], [.int p3, .int p2, .long v5, .long p6])) zq_205 zo_205 (by with_unfolding_all rfl) ?_
      replace hf := zf_b2e hf
      obtain ⟨v7, h8, hv, hf⟩ := hf
      refine zv_c zq_205 zo_205 rfl rfl rfl rfl rfl rfl (t_f_ColumnVault_isAhead _ _ _ _ _ _ _ hv) ?_
      replace hf := zf_ite hf
      obtain ⟨hc, hf⟩ | ⟨hc, hf⟩ := hf
      · refine zv_brT (off := 25) (tt := 85) (r := []) zq_205 zo_205 hc rfl rfl rfl ?_
        refine zv_p (k := 1) (f' := (86, [(0, .ref p0), (1, .int p1), (2, .int p2), (3, .int p3), (4, .int p4), (5, .int p5), (6, .long p6), (8, .int p7)], [.ref p0])) zq_205 zo_205 (by with_unfolding_all rfl) ?_
        replace hf := zf_be hf
        obtain ⟨v9, hv, hf⟩ := hf
        refine zv_gf zq_205 zo_205 rfl rfl rfl (zf_Ae hv) ?_
        refine zv_p (k := 2) (f' := (93, [(0, .ref p0), (1, .int p1), (2, .int p2), (3, .int p3), (4, .int p4), (5, .int p5), (6, .long p6), (8, .int p7)], [.int p5, .int p7, .ref v9])) zq_205 zo_205 (by with_unfolding_all rfl) ?_
        replace hf := zf_be hf
        obtain ⟨h10, hv, hf⟩ := hf
        refine zv_stI zq_205 zo_205 rfl hv ?_
        refine zv_p (k := 2) (f' := (3, [(4, .int (p4 + (1 : Int32))), (0, .ref p0), (1, .int p1), (2, .int p2), (3, .int p3), (5, .int p5), (6, .long p6), (8, .int p7)], [])) zq_205 zo_205 (by with_unfolding_all rfl) ?_
        refine zv_pick (lv' := [(0, .ref p0), (1, .int p1), (2, .int p2), (3, .int p3), (4, .int (p4 + (1 : Int32)))]) [0, 1, 2, 3, 4] rfl rfl ?_
        exact hk3 _ _ _ _ _ _ _ _ hf
      · refine zv_brF (off := 25) (tt := 85) (r := []) zq_205 zo_205 hc rfl rfl rfl ?_
        refine zv_p (k := 1) (f' := (64, [(0, .ref p0), (1, .int p1), (2, .int p2), (3, .int p3), (4, .int p4), (5, .int p5), (6, .long p6), (8, .int p7)], [.ref p0])) zq_205 zo_205 (by with_unfolding_all rfl) ?_
        replace hf := zf_be hf
        obtain ⟨v11, hv, hf⟩ := hf
        refine zv_gf zq_205 zo_205 rfl rfl rfl (zf_Ae hv) ?_
        refine zv_p (k := 2) (f' := (70, [(0, .ref p0), (1, .int p1), (2, .int p2), (3, .int p3), (4, .int p4), (5, .int p5), (6, .long p6), (8, .int p7)], [.ref p0, .int p7, .ref v11])) zq_205 zo_205 (by with_unfolding_all rfl) ?_
        replace hf := zf_be hf
        obtain ⟨v12, hv, hf⟩ := hf
        refine zv_gf zq_205 zo_205 rfl rfl rfl (zf_Ae hv) ?_
        refine zv_p (k := 3) (f' := (77, [(0, .ref p0), (1, .int p1), (2, .int p2), (3, .int p3), (4, .int p4), (5, .int p5), (6, .long p6), (8, .int p7)], [.int (p7 - (1 : Int32)), .ref v12, .int p7, .ref v11])) zq_205 zo_205 (by with_unfolding_all rfl) ?_
        replace hf := zf_be hf
        obtain ⟨v13, hv, hf⟩ := hf
        refine zv_ldI zq_205 zo_205 rfl hv ?_
        replace hf := zf_be hf
        obtain ⟨h14, hv, hf⟩ := hf
        refine zv_stI zq_205 zo_205 rfl hv ?_
        refine zv_p (k := 2) (f' := (34, [(8, .int (p7 + (-1 : Int32))), (0, .ref p0), (1, .int p1), (2, .int p2), (3, .int p3), (4, .int p4), (5, .int p5), (6, .long p6)], [])) zq_205 zo_205 (by with_unfolding_all rfl) ?_
        refine zv_pick (lv' := [(0, .ref p0), (1, .int p1), (2, .int p2), (3, .int p3), (4, .int p4), (5, .int p5), (6, .long p6), (8, .int (p7 + (-1 : Int32)))]) [0, 1, 2, 3, 4, 5, 6, 8] rfl rfl ?_
        exact ih _ _ _ _ _ _ _ _ _ _ _ hf
set_option maxHeartbeats 1000000 in
def f_Sheet_orderBy_3 : Nat → Nat → Int32 → Int32 → Int32 → Int32 → zx_H → Option (Unit × zx_H)
  | 0, _, _, _, _, _, _ => none
  | n + 1, p0, p1, p2, p3, p4, h =>
    zf_b (zf_I 10 4 p0 h) fun v1 =>
    if v1 ≤ p4 then
      some ((), h)
    else
      zf_b (zf_A 10 2 p0 h) fun v2 =>
      zf_b (zf_ldI v2 p4 h) fun v3 =>
      zf_b (zf_is 10 p0 h) fun _ =>
      zf_b2 (f_Sheet_keyAt p0 p1 v3 h) fun v4 h5 =>
      f_Sheet_orderBy_34 (f_Sheet_orderBy_3 n) zF p0 p1 p2 p3 p4 v3 v4 p4 h5
set_option maxHeartbeats 4000000 in
set_option maxRecDepth 400000 in
theorem t_f_Sheet_orderBy_3 {sc : (Nat × (Nat → Int32)) × Bool} {d : Nat} : ∀ (n : Nat) (p0 : Nat) (p1 : Int32) (p2 : Int32) (p3 : Int32) (p4 : Int32) (h : zx_H) (r : Unit) (h' : zx_H), f_Sheet_orderBy_3 n p0 p1 p2 p3 p4 h = some (r, h') → zx_T sc (d + 1) 205 (3, [(0, .ref p0), (1, .int p1), (2, .int p2), (3, .int p3), (4, .int p4)], []) h (zf_oV r) h' := by
  intro n
  induction n with
  | zero => intro p0 p1 p2 p3 p4 h r h' hf; cases hf
  | succ n ih =>
    intro p0 p1 p2 p3 p4 h r h' hf
    unfold f_Sheet_orderBy_3 at hf
    refine zv_p (k := 2) (f' := (6, [(0, .ref p0), (1, .int p1), (2, .int p2), (3, .int p3), (4, .int p4)], [.ref p0, .int p4])) zq_205 zo_205 (by with_unfolding_all rfl) ?_
    replace hf := zf_be hf
    obtain ⟨v1, hv, hf⟩ := hf
    refine zv_gf zq_205 zo_205 rfl rfl rfl (zf_Ie hv) ?_
    replace hf := zf_ite hf
    obtain ⟨hc, hf⟩ | ⟨hc, hf⟩ := hf
    · refine zv_brT (off := 91) (tt := 100) (r := []) zq_205 zo_205 hc rfl rfl rfl ?_
      cases hf
      exact zv_r zq_205 zo_205 rfl rfl rfl rfl rfl
    · refine zv_brF (off := 91) (tt := 100) (r := []) zq_205 zo_205 hc rfl rfl rfl ?_
      refine zv_p (k := 1) (f' := (13, [(0, .ref p0), (1, .int p1), (2, .int p2), (3, .int p3), (4, .int p4)], [.ref p0])) zq_205 zo_205 (by with_unfolding_all rfl) ?_
      replace hf := zf_be hf
      obtain ⟨v2, hv, hf⟩ := hf
      refine zv_gf zq_205 zo_205 rfl rfl rfl (zf_Ae hv) ?_
      refine zv_p (k := 1) (f' := (18, [(0, .ref p0), (1, .int p1), (2, .int p2), (3, .int p3), (4, .int p4)], [.int p4, .ref v2])) zq_205 zo_205 (by with_unfolding_all rfl) ?_
      replace hf := zf_be hf
      obtain ⟨v3, hv, hf⟩ := hf
      refine zv_ldI zq_205 zo_205 rfl hv ?_
      refine zv_p (k := 4) (f' := (25, [(5, .int v3), (0, .ref p0), (1, .int p1), (2, .int p2), (3, .int p3), (4, .int p4)], [.int v3, .int p1, .ref p0])) zq_205 zo_205 (by with_unfolding_all rfl) ?_
      replace hf := zf_be hf
      obtain ⟨_, ho, hf⟩ := hf
      replace hf := zf_b2e hf
      obtain ⟨v4, h5, hv, hf⟩ := hf
      refine zv_c zq_205 zo_205 rfl rfl rfl rfl rfl (zv_cv rfl rfl rfl (zf_ise ho) rfl) (t_f_Sheet_keyAt _ _ _ _ _ _ hv) ?_
      refine zv_p (k := 3) (f' := (34, [(8, .int p4), (6, .long v4), (5, .int v3), (0, .ref p0), (1, .int p1), (2, .int p2), (3, .int p3), (4, .int p4)], [])) zq_205 zo_205 (by with_unfolding_all rfl) ?_
      refine zv_pick (lv' := [(0, .ref p0), (1, .int p1), (2, .int p2), (3, .int p3), (4, .int p4), (5, .int v3), (6, .long v4), (8, .int p4)]) [0, 1, 2, 3, 4, 5, 6, 8] rfl rfl ?_
      exact t_f_Sheet_orderBy_34 ih zF _ _ _ _ _ _ _ _ _ _ _ hf
set_option maxHeartbeats 1000000 in
def f_Sheet_orderBy (p0 : Nat) (p1 : Int32) (p2 : Int32) (p3 : Int32) (h : zx_H) : Option (Unit × zx_H) :=
  f_Sheet_orderBy_3 zF p0 p1 p2 p3 (1 : Int32) h
set_option maxHeartbeats 4000000 in
set_option maxRecDepth 400000 in
theorem t_f_Sheet_orderBy {sc : (Nat × (Nat → Int32)) × Bool} {d : Nat} (p0 : Nat) (p1 : Int32) (p2 : Int32) (p3 : Int32) (h : zx_H) (r : Unit) (h' : zx_H) (hf : f_Sheet_orderBy p0 p1 p2 p3 h = some (r, h')) : zx_T sc (d + 1) 205 (0, [(0, .ref p0), (1, .int p1), (2, .int p2), (3, .int p3)], []) h (zf_oV r) h' := by
  unfold f_Sheet_orderBy at hf
  refine zv_p (k := 2) (f' := (3, [(4, .int (1 : Int32)), (0, .ref p0), (1, .int p1), (2, .int p2), (3, .int p3)], [])) zq_205 zo_205 (by with_unfolding_all rfl) ?_
  refine zv_pick (lv' := [(0, .ref p0), (1, .int p1), (2, .int p2), (3, .int p3), (4, .int (1 : Int32))]) [0, 1, 2, 3, 4] rfl rfl ?_
  exact t_f_Sheet_orderBy_3 zF _ _ _ _ _ _ _ _ hf
/-! ColumnVault$Sheet.placesUnlike (LColumnVault$Sheet;)I -/
noncomputable def zI_207 : zd_T := [[(0, .iconst 0, 1), (1, .istore_n 2, 1), (2, .iconst 0, 1), (3, .istore_n 3, 1), (4, .iload_n 3, 1), (5, .aload_n 0, 1), (6, .getfield 26, 3), (9, .if_icmp .ge 30, 3), (12, .iload_n 2, 1), (13, .aload_n 0, 1), (14, .iload_n 3, 1), (15, .invokevirtual 79, 3), (18, .aload_n 1, 1), (19, .iload_n 3, 1), (20, .invokevirtual 79, 3), (23, .if_icmp .ne 7, 3), (26, .iconst 0, 1), (27, .goto 4, 3), (30, .iconst 1, 1), (31, .iadd, 1)], [(32, .istore_n 2, 1), (33, .iinc 3 1, 3), (36, .goto (-32), 3), (39, .iload_n 2, 1), (40, .ireturn, 1)]]
theorem zo_207 : zd_of 207 = some zI_207 := rfl
set_option maxRecDepth 100000 in
theorem zq_207 : zt_m[207]? = some (⟨"ColumnVault$Sheet", "placesUnlike", "(LColumnVault$Sheet;)I"⟩, prog_10_method_17_code, 4, some (.int), [], 10, 1, 0, 0, 0, 0) := rfl
