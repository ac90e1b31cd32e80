set_option maxHeartbeats 1000000 in
def f_ColumnVaultLaw_isJoined_98 : Nat → Nat → Int32 → Int32 → Int32 → Int32 → Int32 → Int32 → Int32 → Int32 → zx_H → Option ((Int32 ⊕ Nat) × zx_H)
  | 0, _, _, _, _, _, _, _, _, _, _ => none
  | n + 1, p0, p1, p2, p3, p4, p5, p6, p7, p8, h =>
    zf_b (zf_is 12 p0 h) fun _ =>
    zf_b3 (f_ColumnVault_size p0 p1 (0 : Int32) h) fun v1 h2 =>
    if v1 ≤ p8 then
      if ¬ p7 = p6 then
        some (.inl (0 : Int32), h2)
      else
        zf_b2 (f_ColumnVaultLaw_asks p0 (10 : Int32) p6 (0 : Int32) (0 : Int64) h2) fun v4 h5 =>
        if ¬ v4 = (-3000000001 : Int64) then
          some (.inl (0 : Int32), h5)
        else
          zf_b (zf_is 12 p0 h5) fun _ =>
          zf_b3 (f_ColumnVault_joinErrors p0 p1 p3 p2 p4 h5) fun v6 h7 =>
          if ¬ v6 = 0 then
            some (.inl (0 : Int32), h7)
          else
            some (.inl (1 : Int32), h7)
    else
      zf_b (zf_is 12 p0 h2) fun _ =>
      zf_b3 (f_ColumnVault_isChosen p0 p1 p8 h2) fun v9 h10 =>
      if ¬ v9 = 0 then
        zf_b (zf_is 12 p0 h10) fun _ =>
        zf_b3 (f_ColumnVault_get p0 p1 p8 p3 h10) fun v12 h13 =>
        f_ColumnVaultLaw_isJoined_139 (f_ColumnVaultLaw_isJoined_98 n) zF p0 p1 p2 p3 p4 p5 p6 p7 p8 v12 (1 : Int32) (0 : Int32) h13
      else
        (f_ColumnVaultLaw_isJoined_98 n) p0 p1 p2 p3 p4 p5 p6 p7 (p8 + (1 : Int32)) h10
set_option maxHeartbeats 4000000 in
set_option maxRecDepth 400000 in
theorem t_f_ColumnVaultLaw_isJoined_98 {sc : (Nat × (Nat → Int32)) × Bool} {d : Nat} : ∀ (n : Nat) (p0 : Nat) (p1 : Int32) (p2 : Int32) (p3 : Int32) (p4 : Int32) (p5 : Int32) (p6 : Int32) (p7 : Int32) (p8 : Int32) (h : zx_H) (r : (Int32 ⊕ Nat)) (h' : zx_H), f_ColumnVaultLaw_isJoined_98 n p0 p1 p2 p3 p4 p5 p6 p7 p8 h = some (r, h') → zx_T sc (d + 125) 284 (98, [(0, .ref p0), (2, .int p1), (3, .int p2), (4, .int p3), (5, .int p4), (6, .int p5), (7, .int p6), (8, .int p7), (9, .int p8)], []) h (zf_oIx r) h' := by
  intro n
  induction n with
  | zero => intro p0 p1 p2 p3 p4 p5 p6 p7 p8 h r h' hf; cases hf
  | succ n ih =>
    intro p0 p1 p2 p3 p4 p5 p6 p7 p8 h r h' hf
    unfold f_ColumnVaultLaw_isJoined_98 at hf
    refine zv_p (k := 4) (f' := (103, [(0, .ref p0), (2, .int p1), (3, .int p2), (4, .int p3), (5, .int p4), (6, .int p5), (7, .int p6), (8, .int p7), (9, .int p8)], [.int (0 : Int32), .int p1, .ref p0, .int p8])) zq_284 zo_284 (by with_unfolding_all rfl) ?_
    replace hf := zf_be hf
    obtain ⟨_, ho, hf⟩ := hf
    replace hf := zf_b3e hf
    obtain ⟨v1, h2, hv, hf⟩ | ⟨E3, h2, hv, hf⟩ := hf
    rotate_left
    · cases hf; exact zv_cx zq_284 zo_284 rfl rfl rfl rfl rfl (zv_cv rfl rfl rfl (zf_ise ho) rfl) (t_f_ColumnVault_size _ _ _ _ _ _ hv) rfl
    refine zv_c zq_284 zo_284 rfl rfl rfl rfl rfl (zv_cv rfl rfl rfl (zf_ise ho) rfl) (t_f_ColumnVault_size _ _ _ _ _ _ hv) ?_
    replace hf := zf_ite hf
    obtain ⟨hc, hf⟩ | ⟨hc, hf⟩ := hf
    · refine zv_brT (off := 183) (tt := 289) (r := []) zq_284 zo_284 hc rfl rfl rfl ?_
      refine zv_p (k := 2) (f' := (293, [(0, .ref p0), (2, .int p1), (3, .int p2), (4, .int p3), (5, .int p4), (6, .int p5), (7, .int p6), (8, .int p7), (9, .int p8)], [.int p6, .int p7])) zq_284 zo_284 (by with_unfolding_all rfl) ?_
      replace hf := zf_ite hf
      obtain ⟨hc, hf⟩ | ⟨hc, hf⟩ := hf
      · refine zv_brT (off := 37) (tt := 330) (r := []) zq_284 zo_284 hc rfl rfl rfl ?_
        refine zv_p (k := 1) (f' := (331, [(0, .ref p0), (2, .int p1), (3, .int p2), (4, .int p3), (5, .int p4), (6, .int p5), (7, .int p6), (8, .int p7), (9, .int p8)], [.int (0 : Int32)])) zq_284 zo_284 (by with_unfolding_all rfl) ?_
        cases hf
        exact zv_rn zq_284 zo_284 rfl rfl
      · refine zv_brF (off := 37) (tt := 330) (r := []) zq_284 zo_284 hc rfl rfl rfl ?_
        refine zv_p (k := 5) (f' := (303, [(0, .ref p0), (2, .int p1), (3, .int p2), (4, .int p3), (5, .int p4), (6, .int p5), (7, .int p6), (8, .int p7), (9, .int p8)], [.long (0 : Int64), .int (0 : Int32), .int p6, .int (10 : Int32), .ref p0])) zq_284 zo_284 (by with_unfolding_all rfl) ?_
        replace hf := zf_b2e hf
        obtain ⟨v4, h5, hv, hf⟩ := hf
        refine zv_c zq_284 zo_284 rfl rfl rfl rfl rfl rfl (t_f_ColumnVaultLaw_asks _ _ _ _ _ _ _ _ hv) ?_
        refine zv_lng zq_284 zo_284 rfl rfl ?_
        refine zv_p (k := 1) (f' := (310, [(0, .ref p0), (2, .int p1), (3, .int p2), (4, .int p3), (5, .int p4), (6, .int p5), (7, .int p6), (8, .int p7), (9, .int p8)], [.int (lg_cmp v4 (-3000000001 : Int64))])) zq_284 zo_284 (by with_unfolding_all rfl) ?_
        replace hf := zf_ite hf
        obtain ⟨hc, hf⟩ | ⟨hc, hf⟩ := hf
        · refine zv_brT (off := 20) (tt := 330) (r := []) zq_284 zo_284 (zl_ne.mpr hc) rfl rfl rfl ?_
          refine zv_p (k := 1) (f' := (331, [(0, .ref p0), (2, .int p1), (3, .int p2), (4, .int p3), (5, .int p4), (6, .int p5), (7, .int p6), (8, .int p7), (9, .int p8)], [.int (0 : Int32)])) zq_284 zo_284 (by with_unfolding_all rfl) ?_
          cases hf
          exact zv_rn zq_284 zo_284 rfl rfl
        · refine zv_brF (off := 20) (tt := 330) (r := []) zq_284 zo_284 (mt zl_ne.mp hc) rfl rfl rfl ?_
          refine zv_p (k := 5) (f' := (320, [(0, .ref p0), (2, .int p1), (3, .int p2), (4, .int p3), (5, .int p4), (6, .int p5), (7, .int p6), (8, .int p7), (9, .int p8)], [.int p4, .int p2, .int p3, .int p1, .ref p0])) zq_284 zo_284 (by with_unfolding_all rfl) ?_
          replace hf := zf_be hf
          obtain ⟨_, ho, hf⟩ := hf
          replace hf := zf_b3e hf
          obtain ⟨v6, h7, hv, hf⟩ | ⟨E8, h7, hv, hf⟩ := hf
          rotate_left
          · cases hf; exact zv_cx zq_284 zo_284 rfl rfl rfl rfl rfl (zv_cv rfl rfl rfl (zf_ise ho) rfl) (t_f_ColumnVault_joinErrors _ _ _ _ _ _ _ _ hv) rfl
          refine zv_c zq_284 zo_284 rfl rfl rfl rfl rfl (zv_cv rfl rfl rfl (zf_ise ho) rfl) (t_f_ColumnVault_joinErrors _ _ _ _ _ _ _ _ hv) ?_
          replace hf := zf_ite hf
          obtain ⟨hc, hf⟩ | ⟨hc, hf⟩ := hf
          · refine zv_brT (off := 7) (tt := 330) (r := []) zq_284 zo_284 hc rfl rfl rfl ?_
            refine zv_p (k := 1) (f' := (331, [(0, .ref p0), (2, .int p1), (3, .int p2), (4, .int p3), (5, .int p4), (6, .int p5), (7, .int p6), (8, .int p7), (9, .int p8)], [.int (0 : Int32)])) zq_284 zo_284 (by with_unfolding_all rfl) ?_
            cases hf
            exact zv_rn zq_284 zo_284 rfl rfl
          · refine zv_brF (off := 7) (tt := 330) (r := []) zq_284 zo_284 hc rfl rfl rfl ?_
            refine zv_p (k := 2) (f' := (331, [(0, .ref p0), (2, .int p1), (3, .int p2), (4, .int p3), (5, .int p4), (6, .int p5), (7, .int p6), (8, .int p7), (9, .int p8)], [.int (1 : Int32)])) zq_284 zo_284 (by with_unfolding_all rfl) ?_
            cases hf
            exact zv_rn zq_284 zo_284 rfl rfl
    · refine zv_brF (off := 183) (tt := 289) (r := []) zq_284 zo_284 hc rfl rfl rfl ?_
      refine zv_p (k := 3) (f' := (113, [(0, .ref p0), (2, .int p1), (3, .int p2), (4, .int p3), (5, .int p4), (6, .int p5), (7, .int p6), (8, .int p7), (9, .int p8)], [.int p8, .int p1, .ref p0])) zq_284 zo_284 (by with_unfolding_all rfl) ?_
      replace hf := zf_be hf
      obtain ⟨_, ho, hf⟩ := hf
      replace hf := zf_b3e hf
      obtain ⟨v9, h10, hv, hf⟩ | ⟨E11, h10, hv, hf⟩ := hf
      rotate_left
      · cases hf; exact zv_cx zq_284 zo_284 rfl rfl rfl rfl rfl (zv_cv rfl rfl rfl (zf_ise ho) rfl) (t_f_ColumnVault_isChosen _ _ _ _ _ _ hv) rfl
      refine zv_c zq_284 zo_284 rfl rfl rfl rfl rfl (zv_cv rfl rfl rfl (zf_ise ho) rfl) (t_f_ColumnVault_isChosen _ _ _ _ _ _ hv) ?_
      replace hf := zf_ite hf
      obtain ⟨hc, hf⟩ | ⟨hc, hf⟩ := hf
      · refine zv_brT (off := 6) (tt := 122) (r := []) zq_284 zo_284 hc rfl rfl rfl ?_
        refine zv_p (k := 4) (f' := (128, [(0, .ref p0), (2, .int p1), (3, .int p2), (4, .int p3), (5, .int p4), (6, .int p5), (7, .int p6), (8, .int p7), (9, .int p8)], [.int p3, .int p8, .int p1, .ref p0])) zq_284 zo_284 (by with_unfolding_all rfl) ?_
        replace hf := zf_be hf
        obtain ⟨_, ho, hf⟩ := hf
        replace hf := zf_b3e hf
        obtain ⟨v12, h13, hv, hf⟩ | ⟨E14, h13, hv, hf⟩ := hf
        rotate_left
        · cases hf; exact zv_cx zq_284 zo_284 rfl rfl rfl rfl rfl (zv_cv rfl rfl rfl (zf_ise ho) rfl) (t_f_ColumnVault_get _ _ _ _ _ _ _ hv) rfl
        refine zv_c zq_284 zo_284 rfl rfl rfl rfl rfl (zv_cv rfl rfl rfl (zf_ise ho) rfl) (t_f_ColumnVault_get _ _ _ _ _ _ _ hv) ?_
        refine zv_p (k := 5) (f' := (139, [(13, .int (0 : Int32)), (12, .int (1 : Int32)), (10, .long v12), (0, .ref p0), (2, .int p1), (3, .int p2), (4, .int p3), (5, .int p4), (6, .int p5), (7, .int p6), (8, .int p7), (9, .int p8)], [])) zq_284 zo_284 (by with_unfolding_all rfl) ?_
        refine zv_pick (lv' := [(0, .ref p0), (2, .int p1), (3, .int p2), (4, .int p3), (5, .int p4), (6, .int p5), (7, .int p6), (8, .int p7), (9, .int p8), (10, .long v12), (12, .int (1 : Int32)), (13, .int (0 : Int32))]) [0, 2, 3, 4, 5, 6, 7, 8, 9, 10, 12, 13] rfl rfl ?_
        exact t_f_ColumnVaultLaw_isJoined_139 ih zF _ _ _ _ _ _ _ _ _ _ _ _ _ _ _ hf
      · refine zv_brF (off := 6) (tt := 122) (r := []) zq_284 zo_284 hc rfl rfl rfl ?_
        refine zv_p (k := 3) (f' := (98, [(9, .int (p8 + (1 : Int32))), (0, .ref p0), (2, .int p1), (3, .int p2), (4, .int p3), (5, .int p4), (6, .int p5), (7, .int p6), (8, .int p7)], [])) zq_284 zo_284 (by with_unfolding_all rfl) ?_
        refine zv_pick (lv' := [(0, .ref p0), (2, .int p1), (3, .int p2), (4, .int p3), (5, .int p4), (6, .int p5), (7, .int p6), (8, .int p7), (9, .int (p8 + (1 : Int32)))]) [0, 2, 3, 4, 5, 6, 7, 8, 9] rfl rfl ?_
        exact ih _ _ _ _ _ _ _ _ _ _ _ _ hf
set_option maxHeartbeats 1000000 in
def f_ColumnVaultLaw_isJoined (p0 : Nat) (p1 : Nat) (p2 : Int32) (p3 : Int32) (h : zx_H) : Option ((Int32 ⊕ Nat) × zx_H) :=
  zf_b (zf_is 12 p0 h) fun _ =>
  zf_b3 (f_ColumnVault_size p0 p2 (1 : Int32) h) fun v1 h2 =>
  zf_b2 (f_ColumnVaultLaw_draw p1 v1 h2) fun v4 h5 =>
  zf_b (zf_is 12 p0 h5) fun _ =>
  zf_b3 (f_ColumnVault_size p0 p3 (1 : Int32) h5) fun v6 h7 =>
  zf_b2 (f_ColumnVaultLaw_draw p1 v6 h7) fun v9 h10 =>
  zf_b2 (f_ColumnVaultLaw_draw p1 (3 : Int32) h10) fun v11 h12 =>
  zf_b (zf_is 12 p0 h12) fun _ =>
  zf_b3 (f_ColumnVault_kind p0 p2 v4 h12) fun v13 h14 =>
  zf_b (zf_is 12 p0 h14) fun _ =>
  zf_b3 (f_ColumnVault_kind p0 p3 v9 h14) fun v16 h17 =>
  if v13 = v16 then
    zf_b (zf_is 12 p0 h17) fun _ =>
    zf_b3 (f_ColumnVault_join p0 p2 v4 p3 v9 v11 h17) fun v19 h20 =>
    f_ColumnVaultLaw_isJoined_98 zF p0 p2 p3 v4 v9 v11 v19 (0 : Int32) (0 : Int32) h20
  else
    if ¬ p2 = p3 then
      some (.inl (1 : Int32), h17)
    else
      zf_b2 (f_ColumnVaultLaw_asks p0 (9 : Int32) p2 v4 ((v9).toInt64) h17) fun v22 h23 =>
      if ¬ v22 = (-3000000003 : Int64) then
        some (.inl (0 : Int32), h23)
      else
        some (.inl (1 : Int32), h23)
set_option maxHeartbeats 4000000 in
set_option maxRecDepth 400000 in
theorem t_f_ColumnVaultLaw_isJoined {sc : (Nat × (Nat → Int32)) × Bool} {d : Nat} (p0 : Nat) (p1 : Nat) (p2 : Int32) (p3 : Int32) (h : zx_H) (r : (Int32 ⊕ Nat)) (h' : zx_H) (hf : f_ColumnVaultLaw_isJoined p0 p1 p2 p3 h = some (r, h')) : zx_T sc (d + 125) 284 (0, [(0, .ref p0), (1, .ref p1), (2, .int p2), (3, .int p3)], []) h (zf_oIx r) h' := by
  unfold f_ColumnVaultLaw_isJoined at hf
  refine zv_p (k := 4) (f' := (4, [(0, .ref p0), (1, .ref p1), (2, .int p2), (3, .int p3)], [.int (1 : Int32), .int p2, .ref p0, .ref p1])) zq_284 zo_284 (by with_unfolding_all rfl) ?_
  replace hf := zf_be hf
  obtain ⟨_, ho, hf⟩ := hf
  replace hf := zf_b3e hf
  obtain ⟨v1, h2, hv, hf⟩ | ⟨E3, h2, hv, hf⟩ := hf
  rotate_left
  · cases hf; exact zv_cx zq_284 zo_284 rfl rfl rfl rfl rfl (zv_cv rfl rfl rfl (zf_ise ho) rfl) (t_f_ColumnVault_size _ _ _ _ _ _ hv) rfl
  refine zv_c zq_284 zo_284 rfl rfl rfl rfl rfl (zv_cv rfl rfl rfl (zf_ise ho) rfl) (t_f_ColumnVault_size _ _ _ _ _ _ hv) ?_
  replace hf := zf_b2e hf
  obtain ⟨v4, h5, hv, hf⟩ := hf
  refine zv_c zq_284 zo_284 rfl rfl rfl rfl rfl rfl (t_f_ColumnVaultLaw_draw _ _ _ _ _ hv) ?_
  refine zv_p (k := 5) (f' := (16, [(4, .int v4), (0, .ref p0), (1, .ref p1), (2, .int p2), (3, .int p3)], [.int (1 : Int32), .int p3, .ref p0, .ref p1])) zq_284 zo_284 (by with_unfolding_all rfl) ?_
  replace hf := zf_be hf
  obtain ⟨_, ho, hf⟩ := hf
  replace hf := zf_b3e hf
  obtain ⟨v6, h7, hv, hf⟩ | ⟨E8, h7, hv, hf⟩ := hf
  rotate_left
  · cases hf; exact zv_cx zq_284 zo_284 rfl rfl rfl rfl rfl (zv_cv rfl rfl rfl (zf_ise ho) rfl) (t_f_ColumnVault_size _ _ _ _ _ _ hv) rfl
  refine zv_c zq_284 zo_284 rfl rfl rfl rfl rfl (zv_cv rfl rfl rfl (zf_ise ho) rfl) (t_f_ColumnVault_size _ _ _ _ _ _ hv) ?_
  replace hf := zf_b2e hf
  obtain ⟨v9, h10, hv, hf⟩ := hf
  refine zv_c zq_284 zo_284 rfl rfl rfl rfl rfl rfl (t_f_ColumnVaultLaw_draw _ _ _ _ _ hv) ?_
  refine zv_p (k := 3) (f' := (26, [(5, .int v9), (4, .int v4), (0, .ref p0), (1, .ref p1), (2, .int p2), (3, .int p3)], [.int (3 : Int32), .ref p1])) zq_284 zo_284 (by with_unfolding_all rfl) ?_
  replace hf := zf_b2e hf
  obtain ⟨v11, h12, hv, hf⟩ := hf
  refine zv_c zq_284 zo_284 rfl rfl rfl rfl rfl rfl (t_f_ColumnVaultLaw_draw _ _ _ _ _ hv) ?_
  refine zv_p (k := 4) (f' := (35, [(6, .int v11), (5, .int v9), (4, .int v4), (0, .ref p0), (1, .ref p1), (2, .int p2), (3, .int p3)], [.int v4, .int p2, .ref p0])) zq_284 zo_284 (by with_unfolding_all rfl) ?_
  replace hf := zf_be hf
  obtain ⟨_, ho, hf⟩ := hf
  replace hf := zf_b3e hf
  obtain ⟨v13, h14, hv, hf⟩ | ⟨E15, h14, hv, hf⟩ := hf
  rotate_left
  · cases hf; exact zv_cx zq_284 zo_284 rfl rfl rfl rfl rfl (zv_cv rfl rfl rfl (zf_ise ho) rfl) (t_f_ColumnVault_kind _ _ _ _ _ _ hv) rfl
  refine zv_c zq_284 zo_284 rfl rfl rfl rfl rfl (zv_cv rfl rfl rfl (zf_ise ho) rfl) (t_f_ColumnVault_kind _ _ _ _ _ _ hv) ?_
  refine zv_p (k := 3) (f' := (42, [(6, .int v11), (5, .int v9), (4, .int v4), (0, .ref p0), (1, .ref p1), (2, .int p2), (3, .int p3)], [.int v9, .int p3, .ref p0, .int v13])) zq_284 zo_284 (by with_unfolding_all rfl) ?_
  replace hf := zf_be hf
  obtain ⟨_, ho, hf⟩ := hf
  replace hf := zf_b3e hf
  obtain ⟨v16, h17, hv, hf⟩ | ⟨E18, h17, hv, hf⟩ := hf
  rotate_left
  · cases hf; exact zv_cx zq_284 zo_284 rfl rfl rfl rfl rfl (zv_cv rfl rfl rfl (zf_ise ho) rfl) (t_f_ColumnVault_kind _ _ _ _ _ _ hv) rfl
  refine zv_c zq_284 zo_284 rfl rfl rfl rfl rfl (zv_cv rfl rfl rfl (zf_ise ho) rfl) (t_f_ColumnVault_kind _ _ _ _ _ _ hv) ?_
  replace hf := zf_ite hf
  obtain ⟨hc, hf⟩ | ⟨hc, hf⟩ := hf
  · refine zv_brT (off := 33) (tt := 78) (r := []) zq_284 zo_284 hc rfl rfl rfl ?_
    refine zv_p (k := 6) (f' := (87, [(6, .int v11), (5, .int v9), (4, .int v4), (0, .ref p0), (1, .ref p1), (2, .int p2), (3, .int p3)], [.int v11, .int v9, .int p3, .int v4, .int p2, .ref p0])) zq_284 zo_284 (by with_unfolding_all rfl) ?_
    replace hf := zf_be hf
    obtain ⟨_, ho, hf⟩ := hf
    replace hf := zf_b3e hf
    obtain ⟨v19, h20, hv, hf⟩ | ⟨E21, h20, hv, hf⟩ := hf
    rotate_left
    · cases hf; exact zv_cx zq_284 zo_284 rfl rfl rfl rfl rfl (zv_cv rfl rfl rfl (zf_ise ho) rfl) (t_f_ColumnVault_join _ _ _ _ _ _ _ _ _ hv) rfl
    refine zv_c zq_284 zo_284 rfl rfl rfl rfl rfl (zv_cv rfl rfl rfl (zf_ise ho) rfl) (t_f_ColumnVault_join _ _ _ _ _ _ _ _ _ hv) ?_
    refine zv_p (k := 5) (f' := (98, [(9, .int (0 : Int32)), (8, .int (0 : Int32)), (7, .int v19), (6, .int v11), (5, .int v9), (4, .int v4), (0, .ref p0), (1, .ref p1), (2, .int p2), (3, .int p3)], [])) zq_284 zo_284 (by with_unfolding_all rfl) ?_
    refine zv_pick (lv' := [(0, .ref p0), (2, .int p2), (3, .int p3), (4, .int v4), (5, .int v9), (6, .int v11), (7, .int v19), (8, .int (0 : Int32)), (9, .int (0 : Int32))]) [0, 2, 3, 4, 5, 6, 7, 8, 9] rfl rfl ?_
    exact t_f_ColumnVaultLaw_isJoined_98 zF _ _ _ _ _ _ _ _ _ _ _ _ hf
  · refine zv_brF (off := 33) (tt := 78) (r := []) zq_284 zo_284 hc rfl rfl rfl ?_
    refine zv_p (k := 2) (f' := (50, [(6, .int v11), (5, .int v9), (4, .int v4), (0, .ref p0), (1, .ref p1), (2, .int p2), (3, .int p3)], [.int p3, .int p2])) zq_284 zo_284 (by with_unfolding_all rfl) ?_
    replace hf := zf_ite hf
    obtain ⟨hc, hf⟩ | ⟨hc, hf⟩ := hf
    · refine zv_brT (off := 22) (tt := 72) (r := []) zq_284 zo_284 hc rfl rfl rfl ?_
      refine zv_p (k := 2) (f' := (77, [(6, .int v11), (5, .int v9), (4, .int v4), (0, .ref p0), (1, .ref p1), (2, .int p2), (3, .int p3)], [.int (1 : Int32)])) zq_284 zo_284 (by with_unfolding_all rfl) ?_
      cases hf
      exact zv_rn zq_284 zo_284 rfl rfl
    · refine zv_brF (off := 22) (tt := 72) (r := []) zq_284 zo_284 hc rfl rfl rfl ?_
      refine zv_p (k := 6) (f' := (62, [(6, .int v11), (5, .int v9), (4, .int v4), (0, .ref p0), (1, .ref p1), (2, .int p2), (3, .int p3)], [.long (v9).toInt64, .int v4, .int p2, .int (9 : Int32), .ref p0])) zq_284 zo_284 (by with_unfolding_all rfl) ?_
      replace hf := zf_b2e hf
      obtain ⟨v22, h23, hv, hf⟩ := hf
      refine zv_c zq_284 zo_284 rfl rfl rfl rfl rfl rfl (t_f_ColumnVaultLaw_asks _ _ _ _ _ _ _ _ hv) ?_
      refine zv_lng zq_284 zo_284 rfl rfl ?_
      refine zv_p (k := 1) (f' := (69, [(6, .int v11), (5, .int v9), (4, .int v4), (0, .ref p0), (1, .ref p1), (2, .int p2), (3, .int p3)], [.int (lg_cmp v22 (-3000000003 : Int64))])) zq_284 zo_284 (by with_unfolding_all rfl) ?_
      replace hf := zf_ite hf
      obtain ⟨hc, hf⟩ | ⟨hc, hf⟩ := hf
      · refine zv_brT (off := 7) (tt := 76) (r := []) zq_284 zo_284 (zl_ne.mpr hc) rfl rfl rfl ?_
        refine zv_p (k := 1) (f' := (77, [(6, .int v11), (5, .int v9), (4, .int v4), (0, .ref p0), (1, .ref p1), (2, .int p2), (3, .int p3)], [.int (0 : Int32)])) zq_284 zo_284 (by with_unfolding_all rfl) ?_
        cases hf
        exact zv_rn zq_284 zo_284 rfl rfl
      · refine zv_brF (off := 7) (tt := 76) (r := []) zq_284 zo_284 (mt zl_ne.mp hc) rfl rfl rfl ?_
        refine zv_p (k := 2) (f' := (77, [(6, .int v11), (5, .int v9), (4, .int v4), (0, .ref p0), (1, .ref p1), (2, .int p2), (3, .int p3)], [.int (1 : Int32)])) zq_284 zo_284 (by with_unfolding_all rfl) ?_
        cases hf
        exact zv_rn zq_284 zo_284 rfl rfl
/-! ColumnVault.group (II)I -/
noncomputable def zI_294 : zd_T := [[(0, .aload_n 0, 1), (1, .getfield 42, 3), (4, .aload_n 0, 1), (5, .iload_n 1, 1), (6, .iload_n 2, 1), (7, .invokevirtual 91, 3), (10, .iload_n 2, 1), (11, .invokevirtual 269, 3), (14, .aload_n 0, 1), (15, .getfield 42, 3), (18, .getfield 271, 3), (21, .ireturn, 1)]]
theorem zo_294 : zd_of 294 = some zI_294 := rfl
set_option maxRecDepth 100000 in
theorem zq_294 : zt_m[294]? = some (⟨"ColumnVault", "group", "(II)I"⟩, prog_1_method_28_code, 3, some (.int), [], 12, 2, 0, 0, 0, 0) := rfl
set_option maxHeartbeats 1000000 in
def f_ColumnVault_group (p0 : Nat) (p1 : Int32) (p2 : Int32) (h : zx_H) : Option ((Int32 ⊕ Nat) × zx_H) :=
  zf_b (zf_A 12 4 p0 h) fun v1 =>
  zf_b (zf_is 12 p0 h) fun _ =>
  zf_b3 (f_ColumnVault_sheetWith p0 p1 p2 h) fun v2 h3 =>
  zf_b (zf_is 5 v1 h3) fun _ =>
  zf_b2 (f_Groups_make v1 v2 p2 h3) fun _ h6 =>
  zf_b (zf_A 12 4 p0 h6) fun v7 =>
  zf_b (zf_I 5 4 v7 h6) fun v8 =>
  some (.inl v8, h6)
set_option maxHeartbeats 4000000 in
set_option maxRecDepth 400000 in
theorem t_f_ColumnVault_group {sc : (Nat × (Nat → Int32)) × Bool} {d : Nat} (p0 : Nat) (p1 : Int32) (p2 : Int32) (h : zx_H) (r : (Int32 ⊕ Nat)) (h' : zx_H) (hf : f_ColumnVault_group p0 p1 p2 h = some (r, h')) : zx_T sc (d + 3) 294 (0, [(0, .ref p0), (1, .int p1), (2, .int p2)], []) h (zf_oIx r) h' := by
  unfold f_ColumnVault_group at hf
  refine zv_p (k := 1) (f' := (1, [(0, .ref p0), (1, .int p1), (2, .int p2)], [.ref p0])) zq_294 zo_294 (by with_unfolding_all rfl) ?_
  replace hf := zf_be hf
  obtain ⟨v1, hv, hf⟩ := hf
  refine zv_gf zq_294 zo_294 rfl rfl rfl (zf_Ae hv) ?_
  refine zv_p (k := 3) (f' := (7, [(0, .ref p0), (1, .int p1), (2, .int p2)], [.int p2, .int p1, .ref p0, .ref v1])) zq_294 zo_294 (by with_unfolding_all rfl) ?_
  replace hf := zf_be hf
  obtain ⟨_, ho, hf⟩ := hf
  replace hf := zf_b3e hf
  obtain ⟨v2, h3, hv, hf⟩ | ⟨E4, h3, hv, hf⟩ := hf
  rotate_left
  · cases hf; exact zv_cx zq_294 zo_294 rfl rfl rfl rfl rfl (zv_cv rfl rfl rfl (zf_ise ho) rfl) (t_f_ColumnVault_sheetWith _ _ _ _ _ _ hv) rfl
  refine zv_c zq_294 zo_294 rfl rfl rfl rfl rfl (zv_cv rfl rfl rfl (zf_ise ho) rfl) (t_f_ColumnVault_sheetWith _ _ _ _ _ _ hv) ?_
  refine zv_p (k := 1) (f' := (11, [(0, .ref p0), (1, .int p1), (2, .int p2)], [.int p2, .ref v2, .ref v1])) zq_294 zo_294 (by with_unfolding_all rfl) ?_
  replace hf := zf_be hf
  obtain ⟨_, ho, hf⟩ := hf
  replace hf := zf_b2e hf
  obtain ⟨v5, h6, hv, hf⟩ := hf
  refine zv_c zq_294 zo_294 rfl rfl rfl rfl rfl (zv_cv rfl rfl rfl (zf_ise ho) rfl) (t_f_Groups_make _ _ _ _ _ _ hv) ?_
  refine zv_p (k := 1) (f' := (15, [(0, .ref p0), (1, .int p1), (2, .int p2)], [.ref p0])) zq_294 zo_294 (by with_unfolding_all rfl) ?_
  replace hf := zf_be hf
  obtain ⟨v7, hv, hf⟩ := hf
  refine zv_gf zq_294 zo_294 rfl rfl rfl (zf_Ae hv) ?_
  replace hf := zf_be hf
  obtain ⟨v8, hv, hf⟩ := hf
  refine zv_gf zq_294 zo_294 rfl rfl rfl (zf_Ie hv) ?_
  cases hf
  exact zv_rn zq_294 zo_294 rfl rfl
/-! ColumnVault.meanOf (II)D -/
noncomputable def zI_295 : zd_T := [[(0, .aload_n 0, 1), (1, .iload_n 1, 1), (2, .iload_n 2, 1), (3, .invokevirtual 91, 3), (6, .astore_n 3, 1), (7, .aload_n 3, 1), (8, .iload_n 2, 1), (9, .invokestatic 301, 3), (12, .aload_n 3, 1), (13, .getfield 133, 3), (16, .aload_n 3, 1), (17, .iload_n 2, 1), (18, .invokevirtual 353, 3), (21, .land, 1), (22, .invokestatic 137, 3), (25, .istore 4, 2), (27, .iload 4, 2), (29, .ifCond .ne 7, 3)], [(32, .dconst 0, 1), (33, .goto 17, 3), (36, .aload_n 3, 1), (37, .iload_n 2, 1), (38, .aload_n 3, 1), (39, .getfield 133, 3), (42, .invokevirtual 307, 3), (45, .l2d, 1), (46, .iload 4, 2), (48, .i2d, 1), (49, .ddiv, 1), (50, .dreturn, 1)]]
theorem zo_295 : zd_of 295 = some zI_295 := rfl
set_option maxRecDepth 100000 in
theorem zq_295 : zt_m[295]? = some (⟨"ColumnVault", "meanOf", "(II)D"⟩, prog_1_method_39_code, 5, some (.double), [], 12, 2, 0, 0, 0, 0) := rfl
set_option maxHeartbeats 1000000 in
def f_ColumnVault_meanOf (p0 : Nat) (p1 : Int32) (p2 : Int32) (h : zx_H) : Option ((UInt64 ⊕ Nat) × zx_H) :=
  zf_b (zf_is 12 p0 h) fun _ =>
  zf_b3 (f_ColumnVault_sheetWith p0 p1 p2 h) fun v1 h2 =>
  zf_b3 (f_ColumnVault_requireNumbers v1 p2 h2) fun _ h5 =>
  zf_b (zf_J 10 5 v1 h5) fun v7 =>
  zf_b (zf_is 10 v1 h5) fun _ =>
  zf_b2 (f_Sheet_knownRows v1 p2 h5) fun v8 h9 =>
  zf_b2 (f_Long_bitCount (v7 &&& v8) h9) fun v10 h11 =>
  if ¬ v10 = 0 then
    zf_b (zf_J 10 5 v1 h11) fun v12 =>
    zf_b (zf_is 10 v1 h11) fun _ =>
    zf_b2 (f_Sheet_sumOf v1 p2 v12 h11) fun v13 h14 =>
    if (FP.ddiv (FP.l2d v13) (FP.i2d v10)) &&& 0x7fffffffffffffff ≤ 0x7ff0000000000000 then
    some (.inl (FP.ddiv (FP.l2d v13) (FP.i2d v10)), h14)
    else none
  else
    some (.inl FP.dconst0, h11)
set_option maxHeartbeats 4000000 in
set_option maxRecDepth 400000 in
theorem t_f_ColumnVault_meanOf {sc : (Nat × (Nat → Int32)) × Bool} {d : Nat} (p0 : Nat) (p1 : Int32) (p2 : Int32) (h : zx_H) (r : (UInt64 ⊕ Nat)) (h' : zx_H) (hf : f_ColumnVault_meanOf p0 p1 p2 h = some (r, h')) : zx_T sc (d + 3) 295 (0, [(0, .ref p0), (1, .int p1), (2, .int p2)], []) h (zf_oDx r) h' := by
  unfold f_ColumnVault_meanOf at hf
  refine zv_p (k := 3) (f' := (3, [(0, .ref p0), (1, .int p1), (2, .int p2)], [.int p2, .int p1, .ref p0])) zq_295 zo_295 (by with_unfolding_all rfl) ?_
  replace hf := zf_be hf
  obtain ⟨_, ho, hf⟩ := hf
  replace hf := zf_b3e hf
  obtain ⟨v1, h2, hv, hf⟩ | ⟨E3, h2, hv, hf⟩ := hf
  rotate_left
  · cases hf; exact zv_cx zq_295 zo_295 rfl rfl rfl rfl rfl (zv_cv rfl rfl rfl (zf_ise ho) rfl) (t_f_ColumnVault_sheetWith _ _ _ _ _ _ hv) rfl
  refine zv_c zq_295 zo_295 rfl rfl rfl rfl rfl (zv_cv rfl rfl rfl (zf_ise ho) rfl) (t_f_ColumnVault_sheetWith _ _ _ _ _ _ hv) ?_
  refine zv_p (k := 3) (f' := (9, [(3, .ref v1), (0, .ref p0), (1, .int p1), (2, .int p2)], [.int p2, .ref v1])) zq_295 zo_295 (by with_unfolding_all rfl) ?_
  replace hf := zf_b3e hf
  obtain ⟨v4, h5, hv, hf⟩ | ⟨E6, h5, hv, hf⟩ := hf
  rotate_left
  · cases hf; exact zv_cx zq_295 zo_295 rfl rfl rfl rfl rfl rfl (t_f_ColumnVault_requireNumbers _ _ _ _ _ hv) rfl
  refine zv_c zq_295 zo_295 rfl rfl rfl rfl rfl rfl (t_f_ColumnVault_requireNumbers _ _ _ _ _ hv) ?_
  refine zv_p (k := 1) (f' := (13, [(3, .ref v1), (0, .ref p0), (1, .int p1), (2, .int p2)], [.ref v1])) zq_295 zo_295 (by with_unfolding_all rfl) ?_
  replace hf := zf_be hf
  obtain ⟨v7, hv, hf⟩ := hf
  refine zv_gf zq_295 zo_295 rfl rfl rfl (zf_Je hv) ?_
  refine zv_p (k := 2) (f' := (18, [(3, .ref v1), (0, .ref p0), (1, .int p1), (2, .int p2)], [.int p2, .ref v1, .long v7])) zq_295 zo_295 (by with_unfolding_all rfl) ?_
  replace hf := zf_be hf
  obtain ⟨_, ho, hf⟩ := hf
  replace hf := zf_b2e hf
  obtain ⟨v8, h9, hv, hf⟩ := hf
  refine zv_c zq_295 zo_295 rfl rfl rfl rfl rfl (zv_cv rfl rfl rfl (zf_ise ho) rfl) (t_f_Sheet_knownRows _ _ _ _ _ hv) ?_
  refine zv_p (k := 1) (f' := (22, [(3, .ref v1), (0, .ref p0), (1, .int p1), (2, .int p2)], [.long (v7 &&& v8)])) zq_295 zo_295 (by with_unfolding_all rfl) ?_
  replace hf := zf_b2e hf
  obtain ⟨v10, h11, hv, hf⟩ := hf
  refine zv_c zq_295 zo_295 rfl rfl rfl rfl rfl rfl (t_f_Long_bitCount _ _ _ _ hv) ?_
  refine zv_p (k := 2) (f' := (29, [(4, .int v10), (3, .ref v1), (0, .ref p0), (1, .int p1), (2, .int p2)], [.int v10])) zq_295 zo_295 (by with_unfolding_all rfl) ?_
  replace hf := zf_ite hf
  obtain ⟨hc, hf⟩ | ⟨hc, hf⟩ := hf
  · refine zv_brT (off := 7) (tt := 36) (r := []) zq_295 zo_295 hc rfl rfl rfl ?_
    refine zv_p (k := 3) (f' := (39, [(4, .int v10), (3, .ref v1), (0, .ref p0), (1, .int p1), (2, .int p2)], [.ref v1, .int p2, .ref v1])) zq_295 zo_295 (by with_unfolding_all rfl) ?_
    replace hf := zf_be hf
    obtain ⟨v12, hv, hf⟩ := hf
    refine zv_gf zq_295 zo_295 rfl rfl rfl (zf_Je hv) ?_
    replace hf := zf_be hf
    obtain ⟨_, ho, hf⟩ := hf
    replace hf := zf_b2e hf
    obtain ⟨v13, h14, hv, hf⟩ := hf
    refine zv_c zq_295 zo_295 rfl rfl rfl rfl rfl (zv_cv rfl rfl rfl (zf_ise ho) rfl) (t_f_Sheet_sumOf _ _ _ _ _ _ hv) ?_
    refine zv_p (k := 3) (f' := (49, [(4, .int v10), (3, .ref v1), (0, .ref p0), (1, .int p1), (2, .int p2)], [.double (FP.i2d v10), .double (FP.l2d v13)])) zq_295 zo_295 (by with_unfolding_all rfl) ?_
    replace hf := zf_ite hf
    obtain ⟨hc, hf⟩ | ⟨hc, hf⟩ := hf
    rotate_left
    · cases hf
    refine zv_ddiv zq_295 zo_295 rfl hc ?_
    cases hf
    exact zv_r zq_295 zo_295 rfl rfl rfl rfl rfl
  · refine zv_brF (off := 7) (tt := 36) (r := []) zq_295 zo_295 hc rfl rfl rfl ?_
    refine zv_p (k := 2) (f' := (50, [(4, .int v10), (3, .ref v1), (0, .ref p0), (1, .int p1), (2, .int p2)], [.double FP.dconst0])) zq_295 zo_295 (by with_unfolding_all rfl) ?_
    cases hf
    exact zv_r zq_295 zo_295 rfl rfl rfl rfl rfl
/-! ColumnVaultLaw.isGrouped (LColumnVault;arr II)Z -/
noncomputable def zI_293 : zd_T := [[(0, .aload_n 0, 1), (1, .iload_n 2, 1), (2, .iconst 1, 1), (3, .invokevirtual 147, 3), (6, .istore_n 3, 1), (7, .aload_n 1, 1), (8, .iload_n 3, 1), (9, .invokestatic 16, 3), (12, .istore 4, 2), (14, .aload_n 1, 1), (15, .iload_n 3, 1), (16, .invokestatic 16, 3), (19, .istore 5, 2), (21, .aload_n 0, 1), (22, .iload_n 2, 1), (23, .iload 5, 2), (25, .invokevirtual 166, 3), (28, .ifCond .ne 7, 3), (31, .iconst 1, 1)], [(32, .goto 4, 3), (35, .iconst 0, 1), (36, .istore 6, 2), (38, .aload_n 0, 1), (39, .iload_n 2, 1), (40, .iload 4, 2), (42, .invokevirtual 368, 3), (45, .istore 7, 2), (47, .iconst 0, 1), (48, .istore 8, 2), (50, .lconst 0, 1), (51, .lstore 9, 2), (53, .lconst 0, 1), (54, .lstore 11, 2), (56, .ldc2_w 156, 3), (59, .lstore 13, 2), (61, .iconst 0, 1), (62, .istore 15, 2)], [(64, .iload 15, 2), (66, .iload 7, 2), (68, .if_icmp .ge 319, 3), (71, .aload_n 0, 1), (72, .iload 15, 2), (74, .iconst 0, 1), (75, .invokevirtual 114, 3), (78, .lstore 16, 2), (80, .iload 15, 2), (82, .ifCond .le 54, 3), (85, .aload_n 0, 1), (86, .iload 15, 2), (88, .iconst 1, 1), (89, .isub, 1), (90, .iconst 0, 1), (91, .invokevirtual 114, 3), (94, .ldc2_w 204, 3)], [(97, .lcmp, 1), (98, .ifCond .eq 36, 3), (101, .lload 16, 2), (103, .ldc2_w 204, 3), (106, .lcmp, 1), (107, .ifCond .eq 29, 3), (110, .aload_n 0, 1), (111, .iload_n 2, 1), (112, .iload 4, 2), (114, .invokevirtual 166, 3), (117, .aload_n 0, 1), (118, .iload 15, 2), (120, .iconst 1, 1), (121, .isub, 1), (122, .iconst 0, 1), (123, .invokevirtual 114, 3), (126, .lload 16, 2)], [(128, .invokestatic 210, 3), (131, .ifCond .lt 5, 3), (134, .iconst 0, 1), (135, .ireturn, 1), (136, .iconst 0, 1), (137, .istore 18, 2), (139, .iconst (-1), 1), (140, .istore 19, 2), (142, .iconst (-1), 1), (143, .istore 20, 2), (145, .iconst 0, 1), (146, .istore 21, 2), (148, .iload 21, 2), (150, .aload_n 0, 1), (151, .iload_n 2, 1), (152, .iconst 0, 1), (153, .invokevirtual 147, 3), (156, .if_icmp .ge 68, 3), (159, .aload_n 0, 1)], [(160, .iload_n 2, 1), (161, .iload 21, 2), (163, .invokevirtual 98, 3), (166, .istore 22, 2), (168, .aload_n 0, 1), (169, .iload_n 2, 1), (170, .iload 22, 2), (172, .invokevirtual 178, 3), (175, .ifCond .eq 43, 3), (178, .aload_n 0, 1), (179, .iload_n 2, 1), (180, .iload 22, 2), (182, .iload 4, 2), (184, .invokevirtual 91, 3), (187, .lload 16, 2), (189, .lcmp, 1), (190, .ifCond .eq 6, 3)], [(193, .goto 25, 3), (196, .iinc 18 1, 3), (199, .iload 19, 2), (201, .iconst (-1), 1), (202, .if_icmp .ne 8, 3), (205, .iload 22, 2), (207, .goto 5, 3), (210, .iload 19, 2), (212, .istore 19, 2), (214, .iload 22, 2), (216, .istore 20, 2), (218, .iinc 21 1, 3), (221, .goto (-73), 3)], [(224, .iload 18, 2), (226, .ifCond .eq 45, 3), (229, .aload_n 0, 1), (230, .iload 15, 2), (232, .iconst 1, 1), (233, .invokevirtual 114, 3), (236, .iload 18, 2), (238, .i2l, 1), (239, .lcmp, 1), (240, .ifCond .ne 31, 3), (243, .aload_n 0, 1), (244, .iload 15, 2), (246, .iconst 2, 1), (247, .invokevirtual 114, 3), (250, .iload 19, 2), (252, .i2l, 1), (253, .lcmp, 1), (254, .ifCond .ne 17, 3)], [(257, .aload_n 0, 1), (258, .iload 15, 2), (260, .iconst 3, 1), (261, .invokevirtual 114, 3), (264, .iload 20, 2), (266, .i2l, 1), (267, .lcmp, 1), (268, .ifCond .eq 5, 3), (271, .iconst 0, 1), (272, .ireturn, 1), (273, .iload 8, 2), (275, .iload 18, 2), (277, .iadd, 1), (278, .istore 8, 2), (280, .lload 9, 2), (282, .iload 6, 2), (284, .ifCond .eq 15, 3), (287, .aload_n 0, 1)], [(288, .iload 15, 2), (290, .iload 5, 2), (292, .iconst 1, 1), (293, .invokevirtual 141, 3), (296, .goto 4, 3), (299, .lconst 0, 1), (300, .ladd, 1), (301, .lstore 9, 2), (303, .lload 11, 2), (305, .aload_n 0, 1), (306, .iload 15, 2), (308, .iload 5, 2), (310, .iconst 0, 1), (311, .invokevirtual 141, 3), (314, .ladd, 1), (315, .lstore 11, 2), (317, .aload_n 0, 1), (318, .bipush 19, 2)], [(320, .iload 15, 2), (322, .iload 5, 2), (324, .ldc2_w 196, 3), (327, .invokestatic 278, 3), (330, .lstore 21, 2), (332, .lload 21, 2), (334, .ldc2_w 156, 3), (337, .lcmp, 1), (338, .ifCond .ne 8, 3), (341, .lload 13, 2), (343, .goto 36, 3), (346, .lload 13, 2), (348, .ldc2_w 156, 3), (351, .lcmp, 1)], [(352, .ifCond .eq 20, 3), (355, .aload_n 0, 1), (356, .iload_n 2, 1), (357, .iload 5, 2), (359, .invokevirtual 166, 3), (362, .lload 21, 2), (364, .lload 13, 2), (366, .invokestatic 210, 3), (369, .ifCond .ge 8, 3), (372, .lload 21, 2), (374, .goto 5, 3), (377, .lload 13, 2), (379, .lstore 13, 2), (381, .iinc 15 1, 3)], [(384, .goto (-320), 3), (387, .iload 8, 2), (389, .aload_n 0, 1), (390, .iload_n 2, 1), (391, .iconst 2, 1), (392, .invokevirtual 147, 3), (395, .if_icmp .ne 54, 3), (398, .lload 11, 2), (400, .aload_n 0, 1), (401, .iload_n 2, 1), (402, .iload 5, 2), (404, .iconst 0, 1), (405, .invokevirtual 118, 3), (408, .lcmp, 1), (409, .ifCond .ne 40, 3), (412, .iload 6, 2), (414, .ifCond .eq 17, 3)], [(417, .lload 9, 2), (419, .aload_n 0, 1), (420, .iload_n 2, 1), (421, .iload 5, 2), (423, .iconst 1, 1), (424, .invokevirtual 118, 3), (427, .lcmp, 1), (428, .ifCond .ne 21, 3), (431, .aload_n 0, 1), (432, .bipush 12, 2), (434, .iload_n 2, 1), (435, .iload 5, 2), (437, .ldc2_w 196, 3), (440, .invokestatic 278, 3), (443, .lload 13, 2), (445, .lcmp, 1), (446, .ifCond .eq 5, 3)], [(449, .iconst 0, 1), (450, .ireturn, 1), (451, .iload 6, 2), (453, .ifCond .ne 20, 3), (456, .aload_n 0, 1), (457, .bipush 12, 2), (459, .iload_n 2, 1), (460, .iload 5, 2), (462, .lconst 1, 1), (463, .invokestatic 278, 3), (466, .ldc2_w 160, 3), (469, .lcmp, 1), (470, .ifCond .ne 20, 3), (473, .aload_n 0, 1), (474, .bipush 11, 2), (476, .iload 7, 2), (478, .iconst 0, 1), (479, .lconst 0, 1)], [(480, .invokestatic 278, 3), (483, .ldc2_w 152, 3), (486, .lcmp, 1), (487, .ifCond .eq 5, 3), (490, .iconst 0, 1), (491, .ireturn, 1), (492, .iload 7, 2), (494, .ifCond .ne 7, 3), (497, .lconst 0, 1), (498, .goto 11, 3), (501, .aload_n 0, 1), (502, .iconst 0, 1), (503, .iload 5, 2), (505, .iconst 0, 1), (506, .invokevirtual 141, 3), (509, .lstore 15, 2), (511, .aload_n 0, 1)], [(512, .iload_n 2, 1), (513, .invokevirtual 80, 3), (516, .istore 17, 2), (518, .aload_n 0, 1), (519, .iload_n 2, 1), (520, .iload 17, 2), (522, .iload 5, 2), (524, .aload_n 1, 1), (525, .aload_n 0, 1), (526, .iload_n 2, 1), (527, .iload 5, 2), (529, .invokevirtual 166, 3), (532, .invokestatic 169, 3), (535, .invokevirtual 87, 3), (538, .istore 18, 2), (540, .iload 18, 2), (542, .ifCond .eq 74, 3)], [(545, .iload 7, 2), (547, .ifCond .eq 17, 3), (550, .aload_n 0, 1), (551, .iconst 0, 1), (552, .iload 5, 2), (554, .iconst 0, 1), (555, .invokevirtual 141, 3), (558, .lload 15, 2), (560, .lcmp, 1), (561, .ifCond .ne 55, 3), (564, .iload 6, 2), (566, .ifCond .eq 46, 3), (569, .aload_n 0, 1), (570, .iload_n 2, 1), (571, .iload 5, 2), (573, .iconst 0, 1), (574, .invokevirtual 118, 3)], [(577, .lconst 0, 1), (578, .lcmp, 1), (579, .ifCond .eq 33, 3), (582, .aload_n 0, 1), (583, .iload_n 2, 1), (584, .iload 5, 2), (586, .invokevirtual 371, 3), (589, .aload_n 0, 1), (590, .iload_n 2, 1), (591, .iload 5, 2), (593, .iconst 1, 1), (594, .invokevirtual 118, 3), (597, .l2d, 1), (598, .aload_n 0, 1), (599, .iload_n 2, 1), (600, .iload 5, 2), (602, .iconst 0, 1), (603, .invokevirtual 118, 3), (606, .l2d, 1), (607, .ddiv, 1)], [(608, .dcmp .l, 1), (609, .ifCond .ne 7, 3), (612, .iconst 1, 1), (613, .goto 4, 3), (616, .iconst 0, 1), (617, .ireturn, 1)]]
theorem zo_293 : zd_of 293 = some zI_293 := rfl
set_option maxRecDepth 100000 in
theorem zq_293 : zt_m[293]? = some (⟨"ColumnVaultLaw", "isGrouped", "(LColumnVault;[II)Z"⟩, method_26_code, 23, some (.boolean), [], 17, 3, 0, 1, 99999, 0) := rfl
