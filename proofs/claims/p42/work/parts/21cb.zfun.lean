set_option maxHeartbeats 1000000 in
def f_ColumnVaultLaw_isGrouped_509 (p0 : Nat) (p1 : Nat) (p2 : Int32) (p3 : Int32) (p4 : Int32) (p5 : Int32) (p6 : Int64) (h : zx_H) : Option ((Int32 ⊕ Nat) × zx_H) :=
  zf_b (zf_is 12 p0 h) fun _ =>
  zf_b3 (f_ColumnVault_addRow p0 p2 h) fun v1 h2 =>
  zf_b (zf_is 12 p0 h2) fun _ =>
  zf_b3 (f_ColumnVault_kind p0 p2 p3 h2) fun v4 h5 =>
  zf_b2 (f_ColumnVaultLaw_value p1 v4 h5) fun v7 h8 =>
  zf_b (zf_is 12 p0 h8) fun _ =>
  zf_b3 (f_ColumnVault_set p0 p2 v1 p3 v7 h8) fun v9 h10 =>
  if v9 = 0 then
    some (.inl (0 : Int32), h10)
  else
    if p5 = 0 then
      f_ColumnVaultLaw_isGrouped_564 p0 p2 p3 p4 h10
    else
      zf_b (zf_is 12 p0 h10) fun _ =>
      zf_b3 (f_ColumnVault_groupTotal p0 (0 : Int32) p3 (0 : Int32) h10) fun v12 h13 =>
      if ¬ v12 = p6 then
        some (.inl (0 : Int32), h13)
      else
        f_ColumnVaultLaw_isGrouped_564 p0 p2 p3 p4 h13
set_option maxHeartbeats 4000000 in
set_option maxRecDepth 400000 in
theorem t_f_ColumnVaultLaw_isGrouped_509 {sc : (Nat × (Nat → Int32)) × Bool} {d : Nat} (p0 : Nat) (p1 : Nat) (p2 : Int32) (p3 : Int32) (p4 : Int32) (p5 : Int32) (p6 : Int64) (h : zx_H) (r : (Int32 ⊕ Nat)) (h' : zx_H) (hf : f_ColumnVaultLaw_isGrouped_509 p0 p1 p2 p3 p4 p5 p6 h = some (r, h')) : zx_T sc (d + 125) 293 (509, [(0, .ref p0), (1, .ref p1), (2, .int p2), (5, .int p3), (6, .int p4), (7, .int p5)], [.long p6]) h (zf_oIx r) h' := by
  unfold f_ColumnVaultLaw_isGrouped_509 at hf
  refine zv_p (k := 3) (f' := (513, [(15, .long p6), (0, .ref p0), (1, .ref p1), (2, .int p2), (5, .int p3), (6, .int p4), (7, .int p5)], [.int p2, .ref p0])) zq_293 zo_293 (by with_unfolding_all rfl) ?_
  replace hf := zf_be hf
  obtain ⟨_, ho, hf⟩ := hf
  replace hf := zf_b3e hf
  obtain ⟨v1, h2, hv, hf⟩ | ⟨E3, h2, hv, hf⟩ := hf
  rotate_left
  · cases hf; exact zv_cx zq_293 zo_293 rfl rfl rfl rfl rfl (zv_cv rfl rfl rfl (zf_ise ho) rfl) (t_f_ColumnVault_addRow _ _ _ _ _ hv) rfl
  refine zv_c zq_293 zo_293 rfl rfl rfl rfl rfl (zv_cv rfl rfl rfl (zf_ise ho) rfl) (t_f_ColumnVault_addRow _ _ _ _ _ hv) ?_
  refine zv_p (k := 8) (f' := (527, [(17, .int v1), (15, .long p6), (0, .ref p0), (1, .ref p1), (2, .int p2), (5, .int p3), (6, .int p4), (7, .int p5)], [.int p2, .ref p0, .ref p1, .int p3, .int v1, .int p2, .ref p0])) zq_293 zo_293 (by with_unfolding_all rfl) ?_
  refine zv_p (k := 1) (f' := (529, [(17, .int v1), (15, .long p6), (0, .ref p0), (1, .ref p1), (2, .int p2), (5, .int p3), (6, .int p4), (7, .int p5)], [.int p3, .int p2, .ref p0, .ref p1, .int p3, .int v1, .int p2, .ref p0])) zq_293 zo_293 (by with_unfolding_all rfl) ?_
  replace hf := zf_be hf
  obtain ⟨_, ho, hf⟩ := hf
  replace hf := zf_b3e hf
  obtain ⟨v4, h5, hv, hf⟩ | ⟨E6, h5, hv, hf⟩ := hf
  rotate_left
  · cases hf; exact zv_cx zq_293 zo_293 rfl rfl rfl rfl rfl (zv_cv rfl rfl rfl (zf_ise ho) rfl) (t_f_ColumnVault_kind _ _ _ _ _ _ hv) rfl
  refine zv_c zq_293 zo_293 rfl rfl rfl rfl rfl (zv_cv rfl rfl rfl (zf_ise ho) rfl) (t_f_ColumnVault_kind _ _ _ _ _ _ hv) ?_
  replace hf := zf_b2e hf
  obtain ⟨v7, h8, hv, hf⟩ := hf
  refine zv_c zq_293 zo_293 rfl rfl rfl rfl rfl rfl (t_f_ColumnVaultLaw_value _ _ _ _ _ hv) ?_
  replace hf := zf_be hf
  obtain ⟨_, ho, hf⟩ := hf
  replace hf := zf_b3e hf
  obtain ⟨v9, h10, hv, hf⟩ | ⟨E11, h10, hv, hf⟩ := hf
  rotate_left
  · cases hf; exact zv_cx zq_293 zo_293 rfl rfl rfl rfl rfl (zv_cv rfl rfl rfl (zf_ise ho) rfl) (t_f_ColumnVault_set _ _ _ _ _ _ _ _ hv) rfl
  refine zv_c zq_293 zo_293 rfl rfl rfl rfl rfl (zv_cv rfl rfl rfl (zf_ise ho) rfl) (t_f_ColumnVault_set _ _ _ _ _ _ _ _ hv) ?_
  refine zv_p (k := 2) (f' := (542, [(18, .int v9), (17, .int v1), (15, .long p6), (0, .ref p0), (1, .ref p1), (2, .int p2), (5, .int p3), (6, .int p4), (7, .int p5)], [.int v9])) zq_293 zo_293 (by with_unfolding_all rfl) ?_
  replace hf := zf_ite hf
  obtain ⟨hc, hf⟩ | ⟨hc, hf⟩ := hf
  · refine zv_brT (off := 74) (tt := 616) (r := []) zq_293 zo_293 hc rfl rfl rfl ?_
    refine zv_p (k := 1) (f' := (617, [(18, .int v9), (17, .int v1), (15, .long p6), (0, .ref p0), (1, .ref p1), (2, .int p2), (5, .int p3), (6, .int p4), (7, .int p5)], [.int (0 : Int32)])) zq_293 zo_293 (by with_unfolding_all rfl) ?_
    cases hf
    exact zv_rn zq_293 zo_293 rfl rfl
  · refine zv_brF (off := 74) (tt := 616) (r := []) zq_293 zo_293 hc rfl rfl rfl ?_
    refine zv_p (k := 1) (f' := (547, [(18, .int v9), (17, .int v1), (15, .long p6), (0, .ref p0), (1, .ref p1), (2, .int p2), (5, .int p3), (6, .int p4), (7, .int p5)], [.int p5])) zq_293 zo_293 (by with_unfolding_all rfl) ?_
    replace hf := zf_ite hf
    obtain ⟨hc, hf⟩ | ⟨hc, hf⟩ := hf
    · refine zv_brT (off := 17) (tt := 564) (r := []) zq_293 zo_293 hc rfl rfl rfl ?_
      refine zv_pick (lv' := [(0, .ref p0), (2, .int p2), (5, .int p3), (6, .int p4)]) [0, 2, 5, 6] rfl rfl ?_
      exact t_f_ColumnVaultLaw_isGrouped_564 _ _ _ _ _ _ _ hf
    · refine zv_brF (off := 17) (tt := 564) (r := []) zq_293 zo_293 hc rfl rfl rfl ?_
      refine zv_p (k := 4) (f' := (555, [(18, .int v9), (17, .int v1), (15, .long p6), (0, .ref p0), (1, .ref p1), (2, .int p2), (5, .int p3), (6, .int p4), (7, .int p5)], [.int (0 : Int32), .int p3, .int (0 : Int32), .ref p0])) zq_293 zo_293 (by with_unfolding_all rfl) ?_
      replace hf := zf_be hf
      obtain ⟨_, ho, hf⟩ := hf
      replace hf := zf_b3e hf
      obtain ⟨v12, h13, hv, hf⟩ | ⟨E14, h13, hv, hf⟩ := hf
      rotate_left
      · cases hf; exact zv_cx zq_293 zo_293 rfl rfl rfl rfl rfl (zv_cv rfl rfl rfl (zf_ise ho) rfl) (t_f_ColumnVault_groupTotal _ _ _ _ _ _ _ hv) rfl
      refine zv_c zq_293 zo_293 rfl rfl rfl rfl rfl (zv_cv rfl rfl rfl (zf_ise ho) rfl) (t_f_ColumnVault_groupTotal _ _ _ _ _ _ _ hv) ?_
      refine zv_p (k := 2) (f' := (561, [(18, .int v9), (17, .int v1), (15, .long p6), (0, .ref p0), (1, .ref p1), (2, .int p2), (5, .int p3), (6, .int p4), (7, .int p5)], [.int (lg_cmp v12 p6)])) zq_293 zo_293 (by with_unfolding_all rfl) ?_
      replace hf := zf_ite hf
      obtain ⟨hc, hf⟩ | ⟨hc, hf⟩ := hf
      · refine zv_brT (off := 55) (tt := 616) (r := []) zq_293 zo_293 (zl_ne.mpr hc) rfl rfl rfl ?_
        refine zv_p (k := 1) (f' := (617, [(18, .int v9), (17, .int v1), (15, .long p6), (0, .ref p0), (1, .ref p1), (2, .int p2), (5, .int p3), (6, .int p4), (7, .int p5)], [.int (0 : Int32)])) zq_293 zo_293 (by with_unfolding_all rfl) ?_
        cases hf
        exact zv_rn zq_293 zo_293 rfl rfl
      · refine zv_brF (off := 55) (tt := 616) (r := []) zq_293 zo_293 (mt zl_ne.mp hc) rfl rfl rfl ?_
        refine zv_pick (lv' := [(0, .ref p0), (2, .int p2), (5, .int p3), (6, .int p4)]) [0, 2, 5, 6] rfl rfl ?_
        exact t_f_ColumnVaultLaw_isGrouped_564 _ _ _ _ _ _ _ hf
set_option maxHeartbeats 1000000 in
def f_ColumnVaultLaw_isGrouped_473 (p0 : Nat) (p1 : Nat) (p2 : Int32) (p3 : Int32) (p4 : Int32) (p5 : Int32) (h : zx_H) : Option ((Int32 ⊕ Nat) × zx_H) :=
  zf_b2 (f_ColumnVaultLaw_asks p0 (11 : Int32) p5 (0 : Int32) (0 : Int64) h) fun v1 h2 =>
  if v1 = (-3000000001 : Int64) then
    if ¬ p5 = 0 then
      zf_b (zf_is 12 p0 h2) fun _ =>
      zf_b3 (f_ColumnVault_groupTotal p0 (0 : Int32) p3 (0 : Int32) h2) fun v3 h4 =>
      f_ColumnVaultLaw_isGrouped_509 p0 p1 p2 p3 p4 p5 v3 h4
    else
      f_ColumnVaultLaw_isGrouped_509 p0 p1 p2 p3 p4 p5 (0 : Int64) h2
  else
    some (.inl (0 : Int32), h2)
set_option maxHeartbeats 4000000 in
set_option maxRecDepth 400000 in
theorem t_f_ColumnVaultLaw_isGrouped_473 {sc : (Nat × (Nat → Int32)) × Bool} {d : Nat} (p0 : Nat) (p1 : Nat) (p2 : Int32) (p3 : Int32) (p4 : Int32) (p5 : Int32) (h : zx_H) (r : (Int32 ⊕ Nat)) (h' : zx_H) (hf : f_ColumnVaultLaw_isGrouped_473 p0 p1 p2 p3 p4 p5 h = some (r, h')) : zx_T sc (d + 125) 293 (473, [(0, .ref p0), (1, .ref p1), (2, .int p2), (5, .int p3), (6, .int p4), (7, .int p5)], []) h (zf_oIx r) h' := by
  unfold f_ColumnVaultLaw_isGrouped_473 at hf
  refine zv_p (k := 5) (f' := (480, [(0, .ref p0), (1, .ref p1), (2, .int p2), (5, .int p3), (6, .int p4), (7, .int p5)], [.long (0 : Int64), .int (0 : Int32), .int p5, .int (11 : Int32), .ref p0])) zq_293 zo_293 (by with_unfolding_all rfl) ?_
  replace hf := zf_b2e hf
  obtain ⟨v1, h2, hv, hf⟩ := hf
  refine zv_c zq_293 zo_293 rfl rfl rfl rfl rfl rfl (t_f_ColumnVaultLaw_asks _ _ _ _ _ _ _ _ hv) ?_
  refine zv_lng zq_293 zo_293 rfl rfl ?_
  refine zv_p (k := 1) (f' := (487, [(0, .ref p0), (1, .ref p1), (2, .int p2), (5, .int p3), (6, .int p4), (7, .int p5)], [.int (lg_cmp v1 (-3000000001 : Int64))])) zq_293 zo_293 (by with_unfolding_all rfl) ?_
  replace hf := zf_ite hf
  obtain ⟨hc, hf⟩ | ⟨hc, hf⟩ := hf
  · refine zv_brT (off := 5) (tt := 492) (r := []) zq_293 zo_293 (zl_eq.mpr hc) rfl rfl rfl ?_
    refine zv_p (k := 1) (f' := (494, [(0, .ref p0), (1, .ref p1), (2, .int p2), (5, .int p3), (6, .int p4), (7, .int p5)], [.int p5])) zq_293 zo_293 (by with_unfolding_all rfl) ?_
    replace hf := zf_ite hf
    obtain ⟨hc, hf⟩ | ⟨hc, hf⟩ := hf
    · refine zv_brT (off := 7) (tt := 501) (r := []) zq_293 zo_293 hc rfl rfl rfl ?_
      refine zv_p (k := 4) (f' := (506, [(0, .ref p0), (1, .ref p1), (2, .int p2), (5, .int p3), (6, .int p4), (7, .int p5)], [.int (0 : Int32), .int p3, .int (0 : Int32), .ref p0])) zq_293 zo_293 (by with_unfolding_all rfl) ?_
      replace hf := zf_be hf
      obtain ⟨_, ho, hf⟩ := hf
      replace hf := zf_b3e hf
      obtain ⟨v3, h4, hv, hf⟩ | ⟨E5, h4, hv, hf⟩ := hf
      rotate_left
      · cases hf; exact zv_cx zq_293 zo_293 rfl rfl rfl rfl rfl (zv_cv rfl rfl rfl (zf_ise ho) rfl) (t_f_ColumnVault_groupTotal _ _ _ _ _ _ _ hv) rfl
      refine zv_c zq_293 zo_293 rfl rfl rfl rfl rfl (zv_cv rfl rfl rfl (zf_ise ho) rfl) (t_f_ColumnVault_groupTotal _ _ _ _ _ _ _ hv) ?_
      refine zv_pick (lv' := [(0, .ref p0), (1, .ref p1), (2, .int p2), (5, .int p3), (6, .int p4), (7, .int p5)]) [0, 1, 2, 5, 6, 7] rfl rfl ?_
      exact t_f_ColumnVaultLaw_isGrouped_509 _ _ _ _ _ _ _ _ _ _ hf
    · refine zv_brF (off := 7) (tt := 501) (r := []) zq_293 zo_293 hc rfl rfl rfl ?_
      refine zv_p (k := 2) (f' := (509, [(0, .ref p0), (1, .ref p1), (2, .int p2), (5, .int p3), (6, .int p4), (7, .int p5)], [.long (0 : Int64)])) zq_293 zo_293 (by with_unfolding_all rfl) ?_
      refine zv_pick (lv' := [(0, .ref p0), (1, .ref p1), (2, .int p2), (5, .int p3), (6, .int p4), (7, .int p5)]) [0, 1, 2, 5, 6, 7] rfl rfl ?_
      exact t_f_ColumnVaultLaw_isGrouped_509 _ _ _ _ _ _ _ _ _ _ hf
  · refine zv_brF (off := 5) (tt := 492) (r := []) zq_293 zo_293 (mt zl_eq.mp hc) rfl rfl rfl ?_
    refine zv_p (k := 1) (f' := (491, [(0, .ref p0), (1, .ref p1), (2, .int p2), (5, .int p3), (6, .int p4), (7, .int p5)], [.int (0 : Int32)])) zq_293 zo_293 (by with_unfolding_all rfl) ?_
    cases hf
    exact zv_rn zq_293 zo_293 rfl rfl
set_option maxHeartbeats 1000000 in
def f_ColumnVaultLaw_isGrouped_431 (p0 : Nat) (p1 : Nat) (p2 : Int32) (p3 : Int32) (p4 : Int32) (p5 : Int32) (p6 : Int64) (h : zx_H) : Option ((Int32 ⊕ Nat) × zx_H) :=
  zf_b2 (f_ColumnVaultLaw_asks p0 (12 : Int32) p2 p3 (2 : Int64) h) fun v1 h2 =>
  if v1 = p6 then
    if ¬ p4 = 0 then
      f_ColumnVaultLaw_isGrouped_473 p0 p1 p2 p3 p4 p5 h2
    else
      zf_b2 (f_ColumnVaultLaw_asks p0 (12 : Int32) p2 p3 (1 : Int64) h2) fun v3 h4 =>
      if ¬ v3 = (-3000000003 : Int64) then
        some (.inl (0 : Int32), h4)
      else
        f_ColumnVaultLaw_isGrouped_473 p0 p1 p2 p3 p4 p5 h4
  else
    some (.inl (0 : Int32), h2)
set_option maxHeartbeats 4000000 in
set_option maxRecDepth 400000 in
theorem t_f_ColumnVaultLaw_isGrouped_431 {sc : (Nat × (Nat → Int32)) × Bool} {d : Nat} (p0 : Nat) (p1 : Nat) (p2 : Int32) (p3 : Int32) (p4 : Int32) (p5 : Int32) (p6 : Int64) (h : zx_H) (r : (Int32 ⊕ Nat)) (h' : zx_H) (hf : f_ColumnVaultLaw_isGrouped_431 p0 p1 p2 p3 p4 p5 p6 h = some (r, h')) : zx_T sc (d + 125) 293 (431, [(0, .ref p0), (1, .ref p1), (2, .int p2), (5, .int p3), (6, .int p4), (7, .int p5), (13, .long p6)], []) h (zf_oIx r) h' := by
  unfold f_ColumnVaultLaw_isGrouped_431 at hf
  refine zv_p (k := 4) (f' := (437, [(0, .ref p0), (1, .ref p1), (2, .int p2), (5, .int p3), (6, .int p4), (7, .int p5), (13, .long p6)], [.int p3, .int p2, .int (12 : Int32), .ref p0])) zq_293 zo_293 (by with_unfolding_all rfl) ?_
  refine zv_lng zq_293 zo_293 rfl rfl ?_
  replace hf := zf_b2e hf
  obtain ⟨v1, h2, hv, hf⟩ := hf
  refine zv_c zq_293 zo_293 rfl rfl rfl rfl rfl rfl (t_f_ColumnVaultLaw_asks _ _ _ _ _ _ _ _ hv) ?_
  refine zv_p (k := 2) (f' := (446, [(0, .ref p0), (1, .ref p1), (2, .int p2), (5, .int p3), (6, .int p4), (7, .int p5), (13, .long p6)], [.int (lg_cmp v1 p6)])) zq_293 zo_293 (by with_unfolding_all rfl) ?_
  replace hf := zf_ite hf
  obtain ⟨hc, hf⟩ | ⟨hc, hf⟩ := hf
  · refine zv_brT (off := 5) (tt := 451) (r := []) zq_293 zo_293 (zl_eq.mpr hc) rfl rfl rfl ?_
    refine zv_p (k := 1) (f' := (453, [(0, .ref p0), (1, .ref p1), (2, .int p2), (5, .int p3), (6, .int p4), (7, .int p5), (13, .long p6)], [.int p4])) zq_293 zo_293 (by with_unfolding_all rfl) ?_
    replace hf := zf_ite hf
    obtain ⟨hc, hf⟩ | ⟨hc, hf⟩ := hf
    · refine zv_brT (off := 20) (tt := 473) (r := []) zq_293 zo_293 hc rfl rfl rfl ?_
      refine zv_pick (lv' := [(0, .ref p0), (1, .ref p1), (2, .int p2), (5, .int p3), (6, .int p4), (7, .int p5)]) [0, 1, 2, 5, 6, 7] rfl rfl ?_
      exact t_f_ColumnVaultLaw_isGrouped_473 _ _ _ _ _ _ _ _ _ hf
    · refine zv_brF (off := 20) (tt := 473) (r := []) zq_293 zo_293 hc rfl rfl rfl ?_
      refine zv_p (k := 5) (f' := (463, [(0, .ref p0), (1, .ref p1), (2, .int p2), (5, .int p3), (6, .int p4), (7, .int p5), (13, .long p6)], [.long (1 : Int64), .int p3, .int p2, .int (12 : Int32), .ref p0])) zq_293 zo_293 (by with_unfolding_all rfl) ?_
      replace hf := zf_b2e hf
      obtain ⟨v3, h4, hv, hf⟩ := hf
      refine zv_c zq_293 zo_293 rfl rfl rfl rfl rfl rfl (t_f_ColumnVaultLaw_asks _ _ _ _ _ _ _ _ hv) ?_
      refine zv_lng zq_293 zo_293 rfl rfl ?_
      refine zv_p (k := 1) (f' := (470, [(0, .ref p0), (1, .ref p1), (2, .int p2), (5, .int p3), (6, .int p4), (7, .int p5), (13, .long p6)], [.int (lg_cmp v3 (-3000000003 : Int64))])) zq_293 zo_293 (by with_unfolding_all rfl) ?_
      replace hf := zf_ite hf
      obtain ⟨hc, hf⟩ | ⟨hc, hf⟩ := hf
      · refine zv_brT (off := 20) (tt := 490) (r := []) zq_293 zo_293 (zl_ne.mpr hc) rfl rfl rfl ?_
        refine zv_p (k := 1) (f' := (491, [(0, .ref p0), (1, .ref p1), (2, .int p2), (5, .int p3), (6, .int p4), (7, .int p5), (13, .long p6)], [.int (0 : Int32)])) zq_293 zo_293 (by with_unfolding_all rfl) ?_
        cases hf
        exact zv_rn zq_293 zo_293 rfl rfl
      · refine zv_brF (off := 20) (tt := 490) (r := []) zq_293 zo_293 (mt zl_ne.mp hc) rfl rfl rfl ?_
        refine zv_pick (lv' := [(0, .ref p0), (1, .ref p1), (2, .int p2), (5, .int p3), (6, .int p4), (7, .int p5)]) [0, 1, 2, 5, 6, 7] rfl rfl ?_
        exact t_f_ColumnVaultLaw_isGrouped_473 _ _ _ _ _ _ _ _ _ hf
  · refine zv_brF (off := 5) (tt := 451) (r := []) zq_293 zo_293 (mt zl_eq.mp hc) rfl rfl rfl ?_
    refine zv_p (k := 1) (f' := (450, [(0, .ref p0), (1, .ref p1), (2, .int p2), (5, .int p3), (6, .int p4), (7, .int p5), (13, .long p6)], [.int (0 : Int32)])) zq_293 zo_293 (by with_unfolding_all rfl) ?_
    cases hf
    exact zv_rn zq_293 zo_293 rfl rfl
set_option maxHeartbeats 1000000 in
def f_ColumnVaultLaw_isGrouped_64 : Nat → Nat → Nat → Int32 → Int32 → Int32 → Int32 → Int32 → Int32 → Int64 → Int64 → Int64 → Int32 → zx_H → Option ((Int32 ⊕ Nat) × zx_H)
  | 0, _, _, _, _, _, _, _, _, _, _, _, _, _ => none
  | n + 1, p0, p1, p2, p3, p4, p5, p6, p7, p8, p9, p10, p11, h =>
    if p6 ≤ p11 then
      zf_b (zf_is 12 p0 h) fun _ =>
      zf_b3 (f_ColumnVault_size p0 p2 (2 : Int32) h) fun v1 h2 =>
      if ¬ p7 = v1 then
        some (.inl (0 : Int32), h2)
      else
        zf_b (zf_is 12 p0 h2) fun _ =>
        zf_b3 (f_ColumnVault_total p0 p2 p4 (0 : Int32) h2) fun v4 h5 =>
        if ¬ p9 = v4 then
          some (.inl (0 : Int32), h5)
        else
          if p5 = 0 then
            f_ColumnVaultLaw_isGrouped_431 p0 p1 p2 p4 p5 p6 p10 h5
          else
            zf_b (zf_is 12 p0 h5) fun _ =>
            zf_b3 (f_ColumnVault_total p0 p2 p4 (1 : Int32) h5) fun v7 h8 =>
            if ¬ p8 = v7 then
              some (.inl (0 : Int32), h8)
            else
              f_ColumnVaultLaw_isGrouped_431 p0 p1 p2 p4 p5 p6 p10 h8
    else
      zf_b (zf_is 12 p0 h) fun _ =>
      zf_b3 (f_ColumnVault_groupAt p0 p11 (0 : Int32) h) fun v10 h11 =>
      if p11 ≤ 0 then
        f_ColumnVaultLaw_isGrouped_148 (f_ColumnVaultLaw_isGrouped_64 n) zF p0 p1 p2 p3 p4 p5 p6 p7 p8 p9 p10 p11 v10 (0 : Int32) (-1 : Int32) (-1 : Int32) (0 : Int32) h11
      else
        zf_b (zf_is 12 p0 h11) fun _ =>
        zf_b3 (f_ColumnVault_groupAt p0 (p11 - (1 : Int32)) (0 : Int32) h11) fun v13 h14 =>
        if v13 = (-9000000000 : Int64) then
          some (.inl (0 : Int32), h14)
        else
          if v10 = (-9000000000 : Int64) then
            f_ColumnVaultLaw_isGrouped_148 (f_ColumnVaultLaw_isGrouped_64 n) zF p0 p1 p2 p3 p4 p5 p6 p7 p8 p9 p10 p11 v10 (0 : Int32) (-1 : Int32) (-1 : Int32) (0 : Int32) h14
          else
            zf_b (zf_is 12 p0 h14) fun _ =>
            zf_b3 (f_ColumnVault_kind p0 p2 p3 h14) fun v16 h17 =>
            zf_b (zf_is 12 p0 h17) fun _ =>
            zf_b3 (f_ColumnVault_groupAt p0 (p11 - (1 : Int32)) (0 : Int32) h17) fun v19 h20 =>
            zf_b2 (f_ColumnVaultLaw_than v16 v19 v10 h20) fun v22 h23 =>
            if v22 < 0 then
              f_ColumnVaultLaw_isGrouped_148 (f_ColumnVaultLaw_isGrouped_64 n) zF p0 p1 p2 p3 p4 p5 p6 p7 p8 p9 p10 p11 v10 (0 : Int32) (-1 : Int32) (-1 : Int32) (0 : Int32) h23
            else
              some (.inl (0 : Int32), h23)
set_option maxHeartbeats 4000000 in
set_option maxRecDepth 400000 in
theorem t_f_ColumnVaultLaw_isGrouped_64 {sc : (Nat × (Nat → Int32)) × Bool} {d : Nat} : ∀ (n : Nat) (p0 : Nat) (p1 : Nat) (p2 : Int32) (p3 : Int32) (p4 : Int32) (p5 : Int32) (p6 : Int32) (p7 : Int32) (p8 : Int64) (p9 : Int64) (p10 : Int64) (p11 : Int32) (h : zx_H) (r : (Int32 ⊕ Nat)) (h' : zx_H), f_ColumnVaultLaw_isGrouped_64 n p0 p1 p2 p3 p4 p5 p6 p7 p8 p9 p10 p11 h = some (r, h') → zx_T sc (d + 125) 293 (64, [(0, .ref p0), (1, .ref p1), (2, .int p2), (4, .int p3), (5, .int p4), (6, .int p5), (7, .int p6), (8, .int p7), (9, .long p8), (11, .long p9), (13, .long p10), (15, .int p11)], []) h (zf_oIx r) h' := by
  intro n
  induction n with
  | zero => intro p0 p1 p2 p3 p4 p5 p6 p7 p8 p9 p10 p11 h r h' hf; cases hf
  | succ n ih =>
    intro p0 p1 p2 p3 p4 p5 p6 p7 p8 p9 p10 p11 h r h' hf
    unfold f_ColumnVaultLaw_isGrouped_64 at hf
    refine zv_p (k := 2) (f' := (68, [(0, .ref p0), (1, .ref p1), (2, .int p2), (4, .int p3), (5, .int p4), (6, .int p5), (7, .int p6), (8, .int p7), (9, .long p8), (11, .long p9), (13, .long p10), (15, .int p11)], [.int p6, .int p11])) zq_293 zo_293 (by with_unfolding_all rfl) ?_
    replace hf := zf_ite hf
    obtain ⟨hc, hf⟩ | ⟨hc, hf⟩ := hf
    · refine zv_brT (off := 319) (tt := 387) (r := []) zq_293 zo_293 hc rfl rfl rfl ?_
      refine zv_p (k := 4) (f' := (392, [(0, .ref p0), (1, .ref p1), (2, .int p2), (4, .int p3), (5, .int p4), (6, .int p5), (7, .int p6), (8, .int p7), (9, .long p8), (11, .long p9), (13, .long p10), (15, .int p11)], [.int (2 : Int32), .int p2, .ref p0, .int p7])) zq_293 zo_293 (by with_unfolding_all rfl) ?_
      replace hf := zf_be hf
      obtain ⟨_, ho, hf⟩ := hf
      replace hf := zf_b3e hf
      obtain ⟨v1, h2, hv, hf⟩ | ⟨E3, h2, hv, hf⟩ := hf
      rotate_left
      · cases hf; exact zv_cx zq_293 zo_293 rfl rfl rfl rfl rfl (zv_cv rfl rfl rfl (zf_ise ho) rfl) (t_f_ColumnVault_size _ _ _ _ _ _ hv) rfl
      refine zv_c zq_293 zo_293 rfl rfl rfl rfl rfl (zv_cv rfl rfl rfl (zf_ise ho) rfl) (t_f_ColumnVault_size _ _ _ _ _ _ hv) ?_
      replace hf := zf_ite hf
      obtain ⟨hc, hf⟩ | ⟨hc, hf⟩ := hf
      · refine zv_brT (off := 54) (tt := 449) (r := []) zq_293 zo_293 hc rfl rfl rfl ?_
        refine zv_p (k := 1) (f' := (450, [(0, .ref p0), (1, .ref p1), (2, .int p2), (4, .int p3), (5, .int p4), (6, .int p5), (7, .int p6), (8, .int p7), (9, .long p8), (11, .long p9), (13, .long p10), (15, .int p11)], [.int (0 : Int32)])) zq_293 zo_293 (by with_unfolding_all rfl) ?_
        cases hf
        exact zv_rn zq_293 zo_293 rfl rfl
      · refine zv_brF (off := 54) (tt := 449) (r := []) zq_293 zo_293 hc rfl rfl rfl ?_
        refine zv_p (k := 5) (f' := (405, [(0, .ref p0), (1, .ref p1), (2, .int p2), (4, .int p3), (5, .int p4), (6, .int p5), (7, .int p6), (8, .int p7), (9, .long p8), (11, .long p9), (13, .long p10), (15, .int p11)], [.int (0 : Int32), .int p4, .int p2, .ref p0, .long p9])) zq_293 zo_293 (by with_unfolding_all rfl) ?_
        replace hf := zf_be hf
        obtain ⟨_, ho, hf⟩ := hf
        replace hf := zf_b3e hf
        obtain ⟨v4, h5, hv, hf⟩ | ⟨E6, h5, hv, hf⟩ := hf
        rotate_left
        · cases hf; exact zv_cx zq_293 zo_293 rfl rfl rfl rfl rfl (zv_cv rfl rfl rfl (zf_ise ho) rfl) (t_f_ColumnVault_total _ _ _ _ _ _ _ hv) rfl
        refine zv_c zq_293 zo_293 rfl rfl rfl rfl rfl (zv_cv rfl rfl rfl (zf_ise ho) rfl) (t_f_ColumnVault_total _ _ _ _ _ _ _ hv) ?_
        refine zv_p (k := 1) (f' := (409, [(0, .ref p0), (1, .ref p1), (2, .int p2), (4, .int p3), (5, .int p4), (6, .int p5), (7, .int p6), (8, .int p7), (9, .long p8), (11, .long p9), (13, .long p10), (15, .int p11)], [.int (lg_cmp p9 v4)])) zq_293 zo_293 (by with_unfolding_all rfl) ?_
        replace hf := zf_ite hf
        obtain ⟨hc, hf⟩ | ⟨hc, hf⟩ := hf
        · refine zv_brT (off := 40) (tt := 449) (r := []) zq_293 zo_293 (zl_ne.mpr hc) rfl rfl rfl ?_
          refine zv_p (k := 1) (f' := (450, [(0, .ref p0), (1, .ref p1), (2, .int p2), (4, .int p3), (5, .int p4), (6, .int p5), (7, .int p6), (8, .int p7), (9, .long p8), (11, .long p9), (13, .long p10), (15, .int p11)], [.int (0 : Int32)])) zq_293 zo_293 (by with_unfolding_all rfl) ?_
          cases hf
          exact zv_rn zq_293 zo_293 rfl rfl
        · refine zv_brF (off := 40) (tt := 449) (r := []) zq_293 zo_293 (mt zl_ne.mp hc) rfl rfl rfl ?_
          refine zv_p (k := 1) (f' := (414, [(0, .ref p0), (1, .ref p1), (2, .int p2), (4, .int p3), (5, .int p4), (6, .int p5), (7, .int p6), (8, .int p7), (9, .long p8), (11, .long p9), (13, .long p10), (15, .int p11)], [.int p5])) zq_293 zo_293 (by with_unfolding_all rfl) ?_
          replace hf := zf_ite hf
          obtain ⟨hc, hf⟩ | ⟨hc, hf⟩ := hf
          · refine zv_brT (off := 17) (tt := 431) (r := []) zq_293 zo_293 hc rfl rfl rfl ?_
            refine zv_pick (lv' := [(0, .ref p0), (1, .ref p1), (2, .int p2), (5, .int p4), (6, .int p5), (7, .int p6), (13, .long p10)]) [0, 1, 2, 5, 6, 7, 13] rfl rfl ?_
            exact t_f_ColumnVaultLaw_isGrouped_431 _ _ _ _ _ _ _ _ _ _ hf
          · refine zv_brF (off := 17) (tt := 431) (r := []) zq_293 zo_293 hc rfl rfl rfl ?_
            refine zv_p (k := 5) (f' := (424, [(0, .ref p0), (1, .ref p1), (2, .int p2), (4, .int p3), (5, .int p4), (6, .int p5), (7, .int p6), (8, .int p7), (9, .long p8), (11, .long p9), (13, .long p10), (15, .int p11)], [.int (1 : Int32), .int p4, .int p2, .ref p0, .long p8])) zq_293 zo_293 (by with_unfolding_all rfl) ?_
            replace hf := zf_be hf
            obtain ⟨_, ho, hf⟩ := hf
            replace hf := zf_b3e hf
            obtain ⟨v7, h8, hv, hf⟩ | ⟨E9, h8, hv, hf⟩ := hf
            rotate_left
            · cases hf; exact zv_cx zq_293 zo_293 rfl rfl rfl rfl rfl (zv_cv rfl rfl rfl (zf_ise ho) rfl) (t_f_ColumnVault_total _ _ _ _ _ _ _ hv) rfl
            refine zv_c zq_293 zo_293 rfl rfl rfl rfl rfl (zv_cv rfl rfl rfl (zf_ise ho) rfl) (t_f_ColumnVault_total _ _ _ _ _ _ _ hv) ?_
            refine zv_p (k := 1) (f' := (428, [(0, .ref p0), (1, .ref p1), (2, .int p2), (4, .int p3), (5, .int p4), (6, .int p5), (7, .int p6), (8, .int p7), (9, .long p8), (11, .long p9), (13, .long p10), (15, .int p11)], [.int (lg_cmp p8 v7)])) zq_293 zo_293 (by with_unfolding_all rfl) ?_
            replace hf := zf_ite hf
            obtain ⟨hc, hf⟩ | ⟨hc, hf⟩ := hf
            · refine zv_brT (off := 21) (tt := 449) (r := []) zq_293 zo_293 (zl_ne.mpr hc) rfl rfl rfl ?_
              refine zv_p (k := 1) (f' := (450, [(0, .ref p0), (1, .ref p1), (2, .int p2), (4, .int p3), (5, .int p4), (6, .int p5), (7, .int p6), (8, .int p7), (9, .long p8), (11, .long p9), (13, .long p10), (15, .int p11)], [.int (0 : Int32)])) zq_293 zo_293 (by with_unfolding_all rfl) ?_
              cases hf
              exact zv_rn zq_293 zo_293 rfl rfl
            · refine zv_brF (off := 21) (tt := 449) (r := []) zq_293 zo_293 (mt zl_ne.mp hc) rfl rfl rfl ?_
              refine zv_pick (lv' := [(0, .ref p0), (1, .ref p1), (2, .int p2), (5, .int p4), (6, .int p5), (7, .int p6), (13, .long p10)]) [0, 1, 2, 5, 6, 7, 13] rfl rfl ?_
              exact t_f_ColumnVaultLaw_isGrouped_431 _ _ _ _ _ _ _ _ _ _ hf
    · refine zv_brF (off := 319) (tt := 387) (r := []) zq_293 zo_293 hc rfl rfl rfl ?_
      refine zv_p (k := 3) (f' := (75, [(0, .ref p0), (1, .ref p1), (2, .int p2), (4, .int p3), (5, .int p4), (6, .int p5), (7, .int p6), (8, .int p7), (9, .long p8), (11, .long p9), (13, .long p10), (15, .int p11)], [.int (0 : Int32), .int p11, .ref p0])) zq_293 zo_293 (by with_unfolding_all rfl) ?_
      replace hf := zf_be hf
      obtain ⟨_, ho, hf⟩ := hf
      replace hf := zf_b3e hf
      obtain ⟨v10, h11, hv, hf⟩ | ⟨E12, h11, hv, hf⟩ := hf
      rotate_left
      · cases hf; exact zv_cx zq_293 zo_293 rfl rfl rfl rfl rfl (zv_cv rfl rfl rfl (zf_ise ho) rfl) (t_f_ColumnVault_groupAt _ _ _ _ _ _ hv) rfl
      refine zv_c zq_293 zo_293 rfl rfl rfl rfl rfl (zv_cv rfl rfl rfl (zf_ise ho) rfl) (t_f_ColumnVault_groupAt _ _ _ _ _ _ hv) ?_
      refine zv_p (k := 2) (f' := (82, [(16, .long v10), (0, .ref p0), (1, .ref p1), (2, .int p2), (4, .int p3), (5, .int p4), (6, .int p5), (7, .int p6), (8, .int p7), (9, .long p8), (11, .long p9), (13, .long p10), (15, .int p11)], [.int p11])) zq_293 zo_293 (by with_unfolding_all rfl) ?_
      replace hf := zf_ite hf
      obtain ⟨hc, hf⟩ | ⟨hc, hf⟩ := hf
      · refine zv_brT (off := 54) (tt := 136) (r := []) zq_293 zo_293 hc rfl rfl rfl ?_
        refine zv_p (k := 8) (f' := (148, [(21, .int (0 : Int32)), (20, .int (-1 : Int32)), (19, .int (-1 : Int32)), (18, .int (0 : Int32)), (16, .long v10), (0, .ref p0), (1, .ref p1), (2, .int p2), (4, .int p3), (5, .int p4), (6, .int p5), (7, .int p6), (8, .int p7), (9, .long p8), (11, .long p9), (13, .long p10), (15, .int p11)], [])) zq_293 zo_293 (by with_unfolding_all rfl) ?_
        refine zv_pick (lv' := [(0, .ref p0), (1, .ref p1), (2, .int p2), (4, .int p3), (5, .int p4), (6, .int p5), (7, .int p6), (8, .int p7), (9, .long p8), (11, .long p9), (13, .long p10), (15, .int p11), (16, .long v10), (18, .int (0 : Int32)), (19, .int (-1 : Int32)), (20, .int (-1 : Int32)), (21, .int (0 : Int32))]) [0, 1, 2, 4, 5, 6, 7, 8, 9, 11, 13, 15, 16, 18, 19, 20, 21] rfl rfl ?_
        exact t_f_ColumnVaultLaw_isGrouped_148 ih zF _ _ _ _ _ _ _ _ _ _ _ _ _ _ _ _ _ _ _ _ hf
      · refine zv_brF (off := 54) (tt := 136) (r := []) zq_293 zo_293 hc rfl rfl rfl ?_
        refine zv_p (k := 5) (f' := (91, [(16, .long v10), (0, .ref p0), (1, .ref p1), (2, .int p2), (4, .int p3), (5, .int p4), (6, .int p5), (7, .int p6), (8, .int p7), (9, .long p8), (11, .long p9), (13, .long p10), (15, .int p11)], [.int (0 : Int32), .int (p11 - (1 : Int32)), .ref p0])) zq_293 zo_293 (by with_unfolding_all rfl) ?_
        replace hf := zf_be hf
        obtain ⟨_, ho, hf⟩ := hf
        replace hf := zf_b3e hf
        obtain ⟨v13, h14, hv, hf⟩ | ⟨E15, h14, hv, hf⟩ := hf
        rotate_left
        · cases hf; exact zv_cx zq_293 zo_293 rfl rfl rfl rfl rfl (zv_cv rfl rfl rfl (zf_ise ho) rfl) (t_f_ColumnVault_groupAt _ _ _ _ _ _ hv) rfl
        refine zv_c zq_293 zo_293 rfl rfl rfl rfl rfl (zv_cv rfl rfl rfl (zf_ise ho) rfl) (t_f_ColumnVault_groupAt _ _ _ _ _ _ hv) ?_
        refine zv_lng zq_293 zo_293 rfl rfl ?_
        refine zv_p (k := 1) (f' := (98, [(16, .long v10), (0, .ref p0), (1, .ref p1), (2, .int p2), (4, .int p3), (5, .int p4), (6, .int p5), (7, .int p6), (8, .int p7), (9, .long p8), (11, .long p9), (13, .long p10), (15, .int p11)], [.int (lg_cmp v13 (-9000000000 : Int64))])) zq_293 zo_293 (by with_unfolding_all rfl) ?_
        replace hf := zf_ite hf
        obtain ⟨hc, hf⟩ | ⟨hc, hf⟩ := hf
        · refine zv_brT (off := 36) (tt := 134) (r := []) zq_293 zo_293 (zl_eq.mpr hc) rfl rfl rfl ?_
          refine zv_p (k := 1) (f' := (135, [(16, .long v10), (0, .ref p0), (1, .ref p1), (2, .int p2), (4, .int p3), (5, .int p4), (6, .int p5), (7, .int p6), (8, .int p7), (9, .long p8), (11, .long p9), (13, .long p10), (15, .int p11)], [.int (0 : Int32)])) zq_293 zo_293 (by with_unfolding_all rfl) ?_
          cases hf
          exact zv_rn zq_293 zo_293 rfl rfl
        · refine zv_brF (off := 36) (tt := 134) (r := []) zq_293 zo_293 (mt zl_eq.mp hc) rfl rfl rfl ?_
          refine zv_p (k := 1) (f' := (103, [(16, .long v10), (0, .ref p0), (1, .ref p1), (2, .int p2), (4, .int p3), (5, .int p4), (6, .int p5), (7, .int p6), (8, .int p7), (9, .long p8), (11, .long p9), (13, .long p10), (15, .int p11)], [.long v10])) zq_293 zo_293 (by with_unfolding_all rfl) ?_
          refine zv_lng zq_293 zo_293 rfl rfl ?_
          refine zv_p (k := 1) (f' := (107, [(16, .long v10), (0, .ref p0), (1, .ref p1), (2, .int p2), (4, .int p3), (5, .int p4), (6, .int p5), (7, .int p6), (8, .int p7), (9, .long p8), (11, .long p9), (13, .long p10), (15, .int p11)], [.int (lg_cmp v10 (-9000000000 : Int64))])) zq_293 zo_293 (by with_unfolding_all rfl) ?_
          replace hf := zf_ite hf
          obtain ⟨hc, hf⟩ | ⟨hc, hf⟩ := hf
          · refine zv_brT (off := 29) (tt := 136) (r := []) zq_293 zo_293 (zl_eq.mpr hc) rfl rfl rfl ?_
            refine zv_p (k := 8) (f' := (148, [(21, .int (0 : Int32)), (20, .int (-1 : Int32)), (19, .int (-1 : Int32)), (18, .int (0 : Int32)), (16, .long v10), (0, .ref p0), (1, .ref p1), (2, .int p2), (4, .int p3), (5, .int p4), (6, .int p5), (7, .int p6), (8, .int p7), (9, .long p8), (11, .long p9), (13, .long p10), (15, .int p11)], [])) zq_293 zo_293 (by with_unfolding_all rfl) ?_
            refine zv_pick (lv' := [(0, .ref p0), (1, .ref p1), (2, .int p2), (4, .int p3), (5, .int p4), (6, .int p5), (7, .int p6), (8, .int p7), (9, .long p8), (11, .long p9), (13, .long p10), (15, .int p11), (16, .long v10), (18, .int (0 : Int32)), (19, .int (-1 : Int32)), (20, .int (-1 : Int32)), (21, .int (0 : Int32))]) [0, 1, 2, 4, 5, 6, 7, 8, 9, 11, 13, 15, 16, 18, 19, 20, 21] rfl rfl ?_
            exact t_f_ColumnVaultLaw_isGrouped_148 ih zF _ _ _ _ _ _ _ _ _ _ _ _ _ _ _ _ _ _ _ _ hf
          · refine zv_brF (off := 29) (tt := 136) (r := []) zq_293 zo_293 (mt zl_eq.mp hc) rfl rfl rfl ?_
            refine zv_p (k := 3) (f' := (114, [(16, .long v10), (0, .ref p0), (1, .ref p1), (2, .int p2), (4, .int p3), (5, .int p4), (6, .int p5), (7, .int p6), (8, .int p7), (9, .long p8), (11, .long p9), (13, .long p10), (15, .int p11)], [.int p3, .int p2, .ref p0])) zq_293 zo_293 (by with_unfolding_all rfl) ?_
            replace hf := zf_be hf
            obtain ⟨_, ho, hf⟩ := hf
            replace hf := zf_b3e hf
            obtain ⟨v16, h17, hv, hf⟩ | ⟨E18, h17, hv, hf⟩ := hf
            rotate_left
            · cases hf; exact zv_cx zq_293 zo_293 rfl rfl rfl rfl rfl (zv_cv rfl rfl rfl (zf_ise ho) rfl) (t_f_ColumnVault_kind _ _ _ _ _ _ hv) rfl
            refine zv_c zq_293 zo_293 rfl rfl rfl rfl rfl (zv_cv rfl rfl rfl (zf_ise ho) rfl) (t_f_ColumnVault_kind _ _ _ _ _ _ hv) ?_
            refine zv_p (k := 5) (f' := (123, [(16, .long v10), (0, .ref p0), (1, .ref p1), (2, .int p2), (4, .int p3), (5, .int p4), (6, .int p5), (7, .int p6), (8, .int p7), (9, .long p8), (11, .long p9), (13, .long p10), (15, .int p11)], [.int (0 : Int32), .int (p11 - (1 : Int32)), .ref p0, .int v16])) zq_293 zo_293 (by with_unfolding_all rfl) ?_
            replace hf := zf_be hf
            obtain ⟨_, ho, hf⟩ := hf
            replace hf := zf_b3e hf
            obtain ⟨v19, h20, hv, hf⟩ | ⟨E21, h20, hv, hf⟩ := hf
            rotate_left
            · cases hf; exact zv_cx zq_293 zo_293 rfl rfl rfl rfl rfl (zv_cv rfl rfl rfl (zf_ise ho) rfl) (t_f_ColumnVault_groupAt _ _ _ _ _ _ hv) rfl
            refine zv_c zq_293 zo_293 rfl rfl rfl rfl rfl (zv_cv rfl rfl rfl (zf_ise ho) rfl) (t_f_ColumnVault_groupAt _ _ _ _ _ _ hv) ?_
            refine zv_p (k := 1) (f' := (128, [(16, .long v10), (0, .ref p0), (1, .ref p1), (2, .int p2), (4, .int p3), (5, .int p4), (6, .int p5), (7, .int p6), (8, .int p7), (9, .long p8), (11, .long p9), (13, .long p10), (15, .int p11)], [.long v10, .long v19, .int v16])) zq_293 zo_293 (by with_unfolding_all rfl) ?_
            replace hf := zf_b2e hf
            obtain ⟨v22, h23, hv, hf⟩ := hf
            refine zv_c zq_293 zo_293 rfl rfl rfl rfl rfl rfl (t_f_ColumnVaultLaw_than _ _ _ _ _ _ hv) ?_
            replace hf := zf_ite hf
            obtain ⟨hc, hf⟩ | ⟨hc, hf⟩ := hf
            · refine zv_brT (off := 5) (tt := 136) (r := []) zq_293 zo_293 hc rfl rfl rfl ?_
              refine zv_p (k := 8) (f' := (148, [(21, .int (0 : Int32)), (20, .int (-1 : Int32)), (19, .int (-1 : Int32)), (18, .int (0 : Int32)), (16, .long v10), (0, .ref p0), (1, .ref p1), (2, .int p2), (4, .int p3), (5, .int p4), (6, .int p5), (7, .int p6), (8, .int p7), (9, .long p8), (11, .long p9), (13, .long p10), (15, .int p11)], [])) zq_293 zo_293 (by with_unfolding_all rfl) ?_
              refine zv_pick (lv' := [(0, .ref p0), (1, .ref p1), (2, .int p2), (4, .int p3), (5, .int p4), (6, .int p5), (7, .int p6), (8, .int p7), (9, .long p8), (11, .long p9), (13, .long p10), (15, .int p11), (16, .long v10), (18, .int (0 : Int32)), (19, .int (-1 : Int32)), (20, .int (-1 : Int32)), (21, .int (0 : Int32))]) [0, 1, 2, 4, 5, 6, 7, 8, 9, 11, 13, 15, 16, 18, 19, 20, 21] rfl rfl ?_
              exact t_f_ColumnVaultLaw_isGrouped_148 ih zF _ _ _ _ _ _ _ _ _ _ _ _ _ _ _ _ _ _ _ _ hf
            · refine zv_brF (off := 5) (tt := 136) (r := []) zq_293 zo_293 hc rfl rfl rfl ?_
              refine zv_p (k := 1) (f' := (135, [(16, .long v10), (0, .ref p0), (1, .ref p1), (2, .int p2), (4, .int p3), (5, .int p4), (6, .int p5), (7, .int p6), (8, .int p7), (9, .long p8), (11, .long p9), (13, .long p10), (15, .int p11)], [.int (0 : Int32)])) zq_293 zo_293 (by with_unfolding_all rfl) ?_
              cases hf
              exact zv_rn zq_293 zo_293 rfl rfl
set_option maxHeartbeats 1000000 in
def f_ColumnVaultLaw_isGrouped_36 (p0 : Nat) (p1 : Nat) (p2 : Int32) (p3 : Int32) (p4 : Int32) (p5 : Int32) (h : zx_H) : Option ((Int32 ⊕ Nat) × zx_H) :=
  zf_b (zf_is 12 p0 h) fun _ =>
  zf_b3 (f_ColumnVault_group p0 p2 p3 h) fun v1 h2 =>
  f_ColumnVaultLaw_isGrouped_64 zF p0 p1 p2 p3 p4 p5 v1 (0 : Int32) (0 : Int64) (0 : Int64) (-3000000002 : Int64) (0 : Int32) h2
set_option maxHeartbeats 4000000 in
set_option maxRecDepth 400000 in
theorem t_f_ColumnVaultLaw_isGrouped_36 {sc : (Nat × (Nat → Int32)) × Bool} {d : Nat} (p0 : Nat) (p1 : Nat) (p2 : Int32) (p3 : Int32) (p4 : Int32) (p5 : Int32) (h : zx_H) (r : (Int32 ⊕ Nat)) (h' : zx_H) (hf : f_ColumnVaultLaw_isGrouped_36 p0 p1 p2 p3 p4 p5 h = some (r, h')) : zx_T sc (d + 125) 293 (36, [(0, .ref p0), (1, .ref p1), (2, .int p2), (4, .int p3), (5, .int p4)], [.int p5]) h (zf_oIx r) h' := by
  unfold f_ColumnVaultLaw_isGrouped_36 at hf
  refine zv_p (k := 4) (f' := (42, [(6, .int p5), (0, .ref p0), (1, .ref p1), (2, .int p2), (4, .int p3), (5, .int p4)], [.int p3, .int p2, .ref p0])) zq_293 zo_293 (by with_unfolding_all rfl) ?_
  replace hf := zf_be hf
  obtain ⟨_, ho, hf⟩ := hf
  replace hf := zf_b3e hf
  obtain ⟨v1, h2, hv, hf⟩ | ⟨E3, h2, hv, hf⟩ := hf
  rotate_left
  · cases hf; exact zv_cx zq_293 zo_293 rfl rfl rfl rfl rfl (zv_cv rfl rfl rfl (zf_ise ho) rfl) (t_f_ColumnVault_group _ _ _ _ _ _ hv) rfl
  refine zv_c zq_293 zo_293 rfl rfl rfl rfl rfl (zv_cv rfl rfl rfl (zf_ise ho) rfl) (t_f_ColumnVault_group _ _ _ _ _ _ hv) ?_
  refine zv_p (k := 7) (f' := (56, [(11, .long (0 : Int64)), (9, .long (0 : Int64)), (8, .int (0 : Int32)), (7, .int v1), (6, .int p5), (0, .ref p0), (1, .ref p1), (2, .int p2), (4, .int p3), (5, .int p4)], [])) zq_293 zo_293 (by with_unfolding_all rfl) ?_
  refine zv_lng zq_293 zo_293 rfl rfl ?_
  refine zv_p (k := 3) (f' := (64, [(15, .int (0 : Int32)), (13, .long (-3000000002 : Int64)), (11, .long (0 : Int64)), (9, .long (0 : Int64)), (8, .int (0 : Int32)), (7, .int v1), (6, .int p5), (0, .ref p0), (1, .ref p1), (2, .int p2), (4, .int p3), (5, .int p4)], [])) zq_293 zo_293 (by with_unfolding_all rfl) ?_
  refine zv_pick (lv' := [(0, .ref p0), (1, .ref p1), (2, .int p2), (4, .int p3), (5, .int p4), (6, .int p5), (7, .int v1), (8, .int (0 : Int32)), (9, .long (0 : Int64)), (11, .long (0 : Int64)), (13, .long (-3000000002 : Int64)), (15, .int (0 : Int32))]) [0, 1, 2, 4, 5, 6, 7, 8, 9, 11, 13, 15] rfl rfl ?_
  exact t_f_ColumnVaultLaw_isGrouped_64 zF _ _ _ _ _ _ _ _ _ _ _ _ _ _ _ hf
