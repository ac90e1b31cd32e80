set_option maxHeartbeats 1000000 in
def f_ColumnVaultLaw_isGrouped_300 (k64 : Nat → Nat → Int32 → Int32 → Int32 → Int32 → Int32 → Int32 → Int64 → Int64 → Int64 → Int32 → zx_H → Option ((Int32 ⊕ Nat) × zx_H)) (p0 : Nat) (p1 : Nat) (p2 : Int32) (p3 : Int32) (p4 : Int32) (p5 : Int32) (p6 : Int32) (p7 : Int32) (p8 : Int64) (p9 : Int64) (p10 : Int32) (p11 : Int64) (p12 : Int64) (h : zx_H) : Option ((Int32 ⊕ Nat) × zx_H) :=
  zf_b (zf_is 12 p0 h) fun _ =>
  zf_b3 (f_ColumnVault_groupTotal p0 p10 p4 (0 : Int32) h) fun v1 h2 =>
  zf_b2 (f_ColumnVaultLaw_asks p0 (19 : Int32) p10 p4 (2 : Int64) h2) fun v4 h5 =>
  if ¬ v4 = (-3000000002 : Int64) then
    if p9 = (-3000000002 : Int64) then
      k64 p0 p1 p2 p3 p4 p5 p6 p7 (p11 + p12) (p8 + v1) v4 (p10 + (1 : Int32)) h5
    else
      zf_b (zf_is 12 p0 h5) fun _ =>
      zf_b3 (f_ColumnVault_kind p0 p2 p4 h5) fun v6 h7 =>
      zf_b2 (f_ColumnVaultLaw_than v6 v4 p9 h7) fun v9 h10 =>
      if 0 ≤ v9 then
        k64 p0 p1 p2 p3 p4 p5 p6 p7 (p11 + p12) (p8 + v1) p9 (p10 + (1 : Int32)) h10
      else
        k64 p0 p1 p2 p3 p4 p5 p6 p7 (p11 + p12) (p8 + v1) v4 (p10 + (1 : Int32)) h10
  else
    k64 p0 p1 p2 p3 p4 p5 p6 p7 (p11 + p12) (p8 + v1) p9 (p10 + (1 : Int32)) h5
set_option maxHeartbeats 4000000 in
set_option maxRecDepth 400000 in
theorem t_f_ColumnVaultLaw_isGrouped_300 {sc : (Nat × (Nat → Int32)) × Bool} {d : Nat} {k64 : Nat → Nat → Int32 → Int32 → Int32 → Int32 → Int32 → Int32 → Int64 → Int64 → Int64 → Int32 → zx_H → Option ((Int32 ⊕ Nat) × zx_H)} (hk64 : ∀ (a0 : Nat) (a1 : Nat) (a2 : Int32) (a3 : Int32) (a4 : Int32) (a5 : Int32) (a6 : Int32) (a7 : Int32) (a8 : Int64) (a9 : Int64) (a10 : Int64) (a11 : Int32) (h : zx_H) (r : (Int32 ⊕ Nat)) (h' : zx_H), k64 a0 a1 a2 a3 a4 a5 a6 a7 a8 a9 a10 a11 h = some (r, h') → zx_T sc (d + 125) 293 (64, [(0, .ref a0), (1, .ref a1), (2, .int a2), (4, .int a3), (5, .int a4), (6, .int a5), (7, .int a6), (8, .int a7), (9, .long a8), (11, .long a9), (13, .long a10), (15, .int a11)], []) h (zf_oIx r) h') (p0 : Nat) (p1 : Nat) (p2 : Int32) (p3 : Int32) (p4 : Int32) (p5 : Int32) (p6 : Int32) (p7 : Int32) (p8 : Int64) (p9 : Int64) (p10 : Int32) (p11 : Int64) (p12 : Int64) (h : zx_H) (r : (Int32 ⊕ Nat)) (h' : zx_H) (hf : f_ColumnVaultLaw_isGrouped_300 k64 p0 p1 p2 p3 p4 p5 p6 p7 p8 p9 p10 p11 p12 h = some (r, h')) : zx_T sc (d + 125) 293 (300, [(0, .ref p0), (1, .ref p1), (2, .int p2), (4, .int p3), (5, .int p4), (6, .int p5), (7, .int p6), (8, .int p7), (11, .long p8), (13, .long p9), (15, .int p10)], [.long p12, .long p11]) h (zf_oIx r) h' := by
  unfold f_ColumnVaultLaw_isGrouped_300 at hf
  refine zv_p (k := 7) (f' := (311, [(9, .long (p11 + p12)), (0, .ref p0), (1, .ref p1), (2, .int p2), (4, .int p3), (5, .int p4), (6, .int p5), (7, .int p6), (8, .int p7), (11, .long p8), (13, .long p9), (15, .int p10)], [.int (0 : Int32), .int p4, .int p10, .ref p0, .long p8])) zq_293 zo_293 (by with_unfolding_all rfl) ?_
  replace hf := zf_be hf
  obtain ⟨_, ho, hf⟩ := hf
  replace hf := zf_b3e hf
  obtain ⟨v1, h2, hv, hf⟩ | ⟨E3, h2, hv, hf⟩ := hf
  rotate_left
  · cases hf; exact zv_cx zq_293 zo_293 rfl rfl rfl rfl rfl (zv_cv rfl rfl rfl (zf_ise ho) rfl) (t_f_ColumnVault_groupTotal _ _ _ _ _ _ _ hv) rfl
  refine zv_c zq_293 zo_293 rfl rfl rfl rfl rfl (zv_cv rfl rfl rfl (zf_ise ho) rfl) (t_f_ColumnVault_groupTotal _ _ _ _ _ _ _ hv) ?_
  refine zv_p (k := 6) (f' := (324, [(11, .long (p8 + v1)), (9, .long (p11 + p12)), (0, .ref p0), (1, .ref p1), (2, .int p2), (4, .int p3), (5, .int p4), (6, .int p5), (7, .int p6), (8, .int p7), (13, .long p9), (15, .int p10)], [.int p4, .int p10, .int (19 : Int32), .ref p0])) zq_293 zo_293 (by with_unfolding_all rfl) ?_
  refine zv_lng zq_293 zo_293 rfl rfl ?_
  replace hf := zf_b2e hf
  obtain ⟨v4, h5, hv, hf⟩ := hf
  refine zv_c zq_293 zo_293 rfl rfl rfl rfl rfl rfl (t_f_ColumnVaultLaw_asks _ _ _ _ _ _ _ _ hv) ?_
  refine zv_p (k := 2) (f' := (334, [(21, .long v4), (11, .long (p8 + v1)), (9, .long (p11 + p12)), (0, .ref p0), (1, .ref p1), (2, .int p2), (4, .int p3), (5, .int p4), (6, .int p5), (7, .int p6), (8, .int p7), (13, .long p9), (15, .int p10)], [.long v4])) zq_293 zo_293 (by with_unfolding_all rfl) ?_
  refine zv_lng zq_293 zo_293 rfl rfl ?_
  refine zv_p (k := 1) (f' := (338, [(21, .long v4), (11, .long (p8 + v1)), (9, .long (p11 + p12)), (0, .ref p0), (1, .ref p1), (2, .int p2), (4, .int p3), (5, .int p4), (6, .int p5), (7, .int p6), (8, .int p7), (13, .long p9), (15, .int p10)], [.int (lg_cmp v4 (-3000000002 : Int64))])) zq_293 zo_293 (by with_unfolding_all rfl) ?_
  replace hf := zf_ite hf
  obtain ⟨hc, hf⟩ | ⟨hc, hf⟩ := hf
  · refine zv_brT (off := 8) (tt := 346) (r := []) zq_293 zo_293 (zl_ne.mpr hc) rfl rfl rfl ?_
    refine zv_p (k := 1) (f' := (348, [(21, .long v4), (11, .long (p8 + v1)), (9, .long (p11 + p12)), (0, .ref p0), (1, .ref p1), (2, .int p2), (4, .int p3), (5, .int p4), (6, .int p5), (7, .int p6), (8, .int p7), (13, .long p9), (15, .int p10)], [.long p9])) zq_293 zo_293 (by with_unfolding_all rfl) ?_
    refine zv_lng zq_293 zo_293 rfl rfl ?_
    refine zv_p (k := 1) (f' := (352, [(21, .long v4), (11, .long (p8 + v1)), (9, .long (p11 + p12)), (0, .ref p0), (1, .ref p1), (2, .int p2), (4, .int p3), (5, .int p4), (6, .int p5), (7, .int p6), (8, .int p7), (13, .long p9), (15, .int p10)], [.int (lg_cmp p9 (-3000000002 : Int64))])) zq_293 zo_293 (by with_unfolding_all rfl) ?_
    replace hf := zf_ite hf
    obtain ⟨hc, hf⟩ | ⟨hc, hf⟩ := hf
    · refine zv_brT (off := 20) (tt := 372) (r := []) zq_293 zo_293 (zl_eq.mpr hc) rfl rfl rfl ?_
      refine zv_p (k := 5) (f' := (64, [(15, .int (p10 + (1 : Int32))), (13, .long v4), (21, .long v4), (11, .long (p8 + v1)), (9, .long (p11 + p12)), (0, .ref p0), (1, .ref p1), (2, .int p2), (4, .int p3), (5, .int p4), (6, .int p5), (7, .int p6), (8, .int p7)], [])) zq_293 zo_293 (by with_unfolding_all rfl) ?_
      refine zv_pick (lv' := [(0, .ref p0), (1, .ref p1), (2, .int p2), (4, .int p3), (5, .int p4), (6, .int p5), (7, .int p6), (8, .int p7), (9, .long (p11 + p12)), (11, .long (p8 + v1)), (13, .long v4), (15, .int (p10 + (1 : Int32)))]) [0, 1, 2, 4, 5, 6, 7, 8, 9, 11, 13, 15] rfl rfl ?_
      exact hk64 _ _ _ _ _ _ _ _ _ _ _ _ _ _ _ hf
    · refine zv_brF (off := 20) (tt := 372) (r := []) zq_293 zo_293 (mt zl_eq.mp hc) rfl rfl rfl ?_
      refine zv_p (k := 3) (f' := (359, [(21, .long v4), (11, .long (p8 + v1)), (9, .long (p11 + p12)), (0, .ref p0), (1, .ref p1), (2, .int p2), (4, .int p3), (5, .int p4), (6, .int p5), (7, .int p6), (8, .int p7), (13, .long p9), (15, .int p10)], [.int p4, .int p2, .ref p0])) zq_293 zo_293 (by with_unfolding_all rfl) ?_
      replace hf := zf_be hf
      obtain ⟨_, ho, hf⟩ := hf
      replace hf := zf_b3e hf
      obtain ⟨v6, h7, hv, hf⟩ | ⟨E8, h7, hv, hf⟩ := hf
      rotate_left
      · cases hf; exact zv_cx zq_293 zo_293 rfl rfl rfl rfl rfl (zv_cv rfl rfl rfl (zf_ise ho) rfl) (t_f_ColumnVault_kind _ _ _ _ _ _ hv) rfl
      refine zv_c zq_293 zo_293 rfl rfl rfl rfl rfl (zv_cv rfl rfl rfl (zf_ise ho) rfl) (t_f_ColumnVault_kind _ _ _ _ _ _ hv) ?_
      refine zv_p (k := 2) (f' := (366, [(21, .long v4), (11, .long (p8 + v1)), (9, .long (p11 + p12)), (0, .ref p0), (1, .ref p1), (2, .int p2), (4, .int p3), (5, .int p4), (6, .int p5), (7, .int p6), (8, .int p7), (13, .long p9), (15, .int p10)], [.long p9, .long v4, .int v6])) zq_293 zo_293 (by with_unfolding_all rfl) ?_
      replace hf := zf_b2e hf
      obtain ⟨v9, h10, hv, hf⟩ := hf
      refine zv_c zq_293 zo_293 rfl rfl rfl rfl rfl rfl (t_f_ColumnVaultLaw_than _ _ _ _ _ _ hv) ?_
      replace hf := zf_ite hf
      obtain ⟨hc, hf⟩ | ⟨hc, hf⟩ := hf
      · refine zv_brT (off := 8) (tt := 377) (r := []) zq_293 zo_293 hc rfl rfl rfl ?_
        refine zv_p (k := 4) (f' := (64, [(15, .int (p10 + (1 : Int32))), (13, .long p9), (21, .long v4), (11, .long (p8 + v1)), (9, .long (p11 + p12)), (0, .ref p0), (1, .ref p1), (2, .int p2), (4, .int p3), (5, .int p4), (6, .int p5), (7, .int p6), (8, .int p7)], [])) zq_293 zo_293 (by with_unfolding_all rfl) ?_
        refine zv_pick (lv' := [(0, .ref p0), (1, .ref p1), (2, .int p2), (4, .int p3), (5, .int p4), (6, .int p5), (7, .int p6), (8, .int p7), (9, .long (p11 + p12)), (11, .long (p8 + v1)), (13, .long p9), (15, .int (p10 + (1 : Int32)))]) [0, 1, 2, 4, 5, 6, 7, 8, 9, 11, 13, 15] rfl rfl ?_
        exact hk64 _ _ _ _ _ _ _ _ _ _ _ _ _ _ _ hf
      · refine zv_brF (off := 8) (tt := 377) (r := []) zq_293 zo_293 hc rfl rfl rfl ?_
        refine zv_p (k := 5) (f' := (64, [(15, .int (p10 + (1 : Int32))), (13, .long v4), (21, .long v4), (11, .long (p8 + v1)), (9, .long (p11 + p12)), (0, .ref p0), (1, .ref p1), (2, .int p2), (4, .int p3), (5, .int p4), (6, .int p5), (7, .int p6), (8, .int p7)], [])) zq_293 zo_293 (by with_unfolding_all rfl) ?_
        refine zv_pick (lv' := [(0, .ref p0), (1, .ref p1), (2, .int p2), (4, .int p3), (5, .int p4), (6, .int p5), (7, .int p6), (8, .int p7), (9, .long (p11 + p12)), (11, .long (p8 + v1)), (13, .long v4), (15, .int (p10 + (1 : Int32)))]) [0, 1, 2, 4, 5, 6, 7, 8, 9, 11, 13, 15] rfl rfl ?_
        exact hk64 _ _ _ _ _ _ _ _ _ _ _ _ _ _ _ hf
  · refine zv_brF (off := 8) (tt := 346) (r := []) zq_293 zo_293 (mt zl_ne.mp hc) rfl rfl rfl ?_
    refine zv_p (k := 5) (f' := (64, [(15, .int (p10 + (1 : Int32))), (13, .long p9), (21, .long v4), (11, .long (p8 + v1)), (9, .long (p11 + p12)), (0, .ref p0), (1, .ref p1), (2, .int p2), (4, .int p3), (5, .int p4), (6, .int p5), (7, .int p6), (8, .int p7)], [])) zq_293 zo_293 (by with_unfolding_all rfl) ?_
    refine zv_pick (lv' := [(0, .ref p0), (1, .ref p1), (2, .int p2), (4, .int p3), (5, .int p4), (6, .int p5), (7, .int p6), (8, .int p7), (9, .long (p11 + p12)), (11, .long (p8 + v1)), (13, .long p9), (15, .int (p10 + (1 : Int32)))]) [0, 1, 2, 4, 5, 6, 7, 8, 9, 11, 13, 15] rfl rfl ?_
    exact hk64 _ _ _ _ _ _ _ _ _ _ _ _ _ _ _ hf
set_option maxHeartbeats 1000000 in
def f_ColumnVaultLaw_isGrouped_148 (k64 : Nat → Nat → Int32 → Int32 → Int32 → Int32 → Int32 → Int32 → Int64 → Int64 → Int64 → Int32 → zx_H → Option ((Int32 ⊕ Nat) × zx_H)) : Nat → Nat → Nat → Int32 → Int32 → Int32 → Int32 → Int32 → Int32 → Int64 → Int64 → Int64 → Int32 → Int64 → Int32 → Int32 → Int32 → Int32 → zx_H → Option ((Int32 ⊕ Nat) × zx_H)
  | 0, _, _, _, _, _, _, _, _, _, _, _, _, _, _, _, _, _, _ => none
  | n + 1, p0, p1, p2, p3, p4, p5, p6, p7, p8, p9, p10, p11, p12, p13, p14, p15, p16, h =>
    zf_b (zf_is 12 p0 h) fun _ =>
    zf_b3 (f_ColumnVault_size p0 p2 (0 : Int32) h) fun v1 h2 =>
    if v1 ≤ p16 then
      if p13 = 0 then
        some (.inl (0 : Int32), h2)
      else
        zf_b (zf_is 12 p0 h2) fun _ =>
        zf_b3 (f_ColumnVault_groupAt p0 p11 (1 : Int32) h2) fun v4 h5 =>
        if ¬ v4 = ((p13).toInt64) then
          some (.inl (0 : Int32), h5)
        else
          zf_b (zf_is 12 p0 h5) fun _ =>
          zf_b3 (f_ColumnVault_groupAt p0 p11 (2 : Int32) h5) fun v7 h8 =>
          if ¬ v7 = ((p14).toInt64) then
            some (.inl (0 : Int32), h8)
          else
            zf_b (zf_is 12 p0 h8) fun _ =>
            zf_b3 (f_ColumnVault_groupAt p0 p11 (3 : Int32) h8) fun v10 h11 =>
            if v10 = ((p15).toInt64) then
              if p5 = 0 then
                f_ColumnVaultLaw_isGrouped_300 k64 p0 p1 p2 p3 p4 p5 p6 (p7 + p13) p9 p10 p11 p8 (0 : Int64) h11
              else
                zf_b (zf_is 12 p0 h11) fun _ =>
                zf_b3 (f_ColumnVault_groupTotal p0 p11 p4 (1 : Int32) h11) fun v13 h14 =>
                f_ColumnVaultLaw_isGrouped_300 k64 p0 p1 p2 p3 p4 p5 p6 (p7 + p13) p9 p10 p11 p8 v13 h14
            else
              some (.inl (0 : Int32), h11)
    else
      zf_b (zf_is 12 p0 h2) fun _ =>
      zf_b3 (f_ColumnVault_rowAt p0 p2 p16 h2) fun v16 h17 =>
      zf_b (zf_is 12 p0 h17) fun _ =>
      zf_b3 (f_ColumnVault_isChosen p0 p2 v16 h17) fun v19 h20 =>
      if v19 = 0 then
        (f_ColumnVaultLaw_isGrouped_148 k64 n) p0 p1 p2 p3 p4 p5 p6 p7 p8 p9 p10 p11 p12 p13 p14 p15 (p16 + (1 : Int32)) h20
      else
        zf_b (zf_is 12 p0 h20) fun _ =>
        zf_b3 (f_ColumnVault_get p0 p2 v16 p3 h20) fun v22 h23 =>
        if v22 = p12 then
          if ¬ p14 = (-1 : Int32) then
            (f_ColumnVaultLaw_isGrouped_148 k64 n) p0 p1 p2 p3 p4 p5 p6 p7 p8 p9 p10 p11 p12 (p13 + (1 : Int32)) p14 v16 (p16 + (1 : Int32)) h23
          else
            (f_ColumnVaultLaw_isGrouped_148 k64 n) p0 p1 p2 p3 p4 p5 p6 p7 p8 p9 p10 p11 p12 (p13 + (1 : Int32)) v16 v16 (p16 + (1 : Int32)) h23
        else
          (f_ColumnVaultLaw_isGrouped_148 k64 n) p0 p1 p2 p3 p4 p5 p6 p7 p8 p9 p10 p11 p12 p13 p14 p15 (p16 + (1 : Int32)) h23
set_option maxHeartbeats 4000000 in
set_option maxRecDepth 400000 in
theorem t_f_ColumnVaultLaw_isGrouped_148 {sc : (Nat × (Nat → Int32)) × Bool} {d : Nat} {k64 : Nat → Nat → Int32 → Int32 → Int32 → Int32 → Int32 → Int32 → Int64 → Int64 → Int64 → Int32 → zx_H → Option ((Int32 ⊕ Nat) × zx_H)} (hk64 : ∀ (a0 : Nat) (a1 : Nat) (a2 : Int32) (a3 : Int32) (a4 : Int32) (a5 : Int32) (a6 : Int32) (a7 : Int32) (a8 : Int64) (a9 : Int64) (a10 : Int64) (a11 : Int32) (h : zx_H) (r : (Int32 ⊕ Nat)) (h' : zx_H), k64 a0 a1 a2 a3 a4 a5 a6 a7 a8 a9 a10 a11 h = some (r, h') → zx_T sc (d + 125) 293 (64, [(0, .ref a0), (1, .ref a1), (2, .int a2), (4, .int a3), (5, .int a4), (6, .int a5), (7, .int a6), (8, .int a7), (9, .long a8), (11, .long a9), (13, .long a10), (15, .int a11)], []) h (zf_oIx r) h') : ∀ (n : Nat) (p0 : Nat) (p1 : Nat) (p2 : Int32) (p3 : Int32) (p4 : Int32) (p5 : Int32) (p6 : Int32) (p7 : Int32) (p8 : Int64) (p9 : Int64) (p10 : Int64) (p11 : Int32) (p12 : Int64) (p13 : Int32) (p14 : Int32) (p15 : Int32) (p16 : Int32) (h : zx_H) (r : (Int32 ⊕ Nat)) (h' : zx_H), f_ColumnVaultLaw_isGrouped_148 k64 n p0 p1 p2 p3 p4 p5 p6 p7 p8 p9 p10 p11 p12 p13 p14 p15 p16 h = some (r, h') → zx_T sc (d + 125) 293 (148, [(0, .ref p0), (1, .ref p1), (2, .int p2), (4, .int p3), (5, .int p4), (6, .int p5), (7, .int p6), (8, .int p7), (9, .long p8), (11, .long p9), (13, .long p10), (15, .int p11), (16, .long p12), (18, .int p13), (19, .int p14), (20, .int p15), (21, .int p16)], []) h (zf_oIx r) h' := by
  intro n
  induction n with
  | zero => intro p0 p1 p2 p3 p4 p5 p6 p7 p8 p9 p10 p11 p12 p13 p14 p15 p16 h r h' hf; cases hf
  | succ n ih =>
    intro p0 p1 p2 p3 p4 p5 p6 p7 p8 p9 p10 p11 p12 p13 p14 p15 p16 h r h' hf
    unfold f_ColumnVaultLaw_isGrouped_148 at hf
    refine zv_p (k := 4) (f' := (153, [(0, .ref p0), (1, .ref p1), (2, .int p2), (4, .int p3), (5, .int p4), (6, .int p5), (7, .int p6), (8, .int p7), (9, .long p8), (11, .long p9), (13, .long p10), (15, .int p11), (16, .long p12), (18, .int p13), (19, .int p14), (20, .int p15), (21, .int p16)], [.int (0 : Int32), .int p2, .ref p0, .int p16])) zq_293 zo_293 (by with_unfolding_all rfl) ?_
    replace hf := zf_be hf
    obtain ⟨_, ho, hf⟩ := hf
    replace hf := zf_b3e hf
    obtain ⟨v1, h2, hv, hf⟩ | ⟨E3, h2, hv, hf⟩ := hf
    rotate_left
    · cases hf; exact zv_cx zq_293 zo_293 rfl rfl rfl rfl rfl (zv_cv rfl rfl rfl (zf_ise ho) rfl) (t_f_ColumnVault_size _ _ _ _ _ _ hv) rfl
    refine zv_c zq_293 zo_293 rfl rfl rfl rfl rfl (zv_cv rfl rfl rfl (zf_ise ho) rfl) (t_f_ColumnVault_size _ _ _ _ _ _ hv) ?_
    replace hf := zf_ite hf
    obtain ⟨hc, hf⟩ | ⟨hc, hf⟩ := hf
    · refine zv_brT (off := 68) (tt := 224) (r := []) zq_293 zo_293 hc rfl rfl rfl ?_
      refine zv_p (k := 1) (f' := (226, [(0, .ref p0), (1, .ref p1), (2, .int p2), (4, .int p3), (5, .int p4), (6, .int p5), (7, .int p6), (8, .int p7), (9, .long p8), (11, .long p9), (13, .long p10), (15, .int p11), (16, .long p12), (18, .int p13), (19, .int p14), (20, .int p15), (21, .int p16)], [.int p13])) zq_293 zo_293 (by with_unfolding_all rfl) ?_
      replace hf := zf_ite hf
      obtain ⟨hc, hf⟩ | ⟨hc, hf⟩ := hf
      · refine zv_brT (off := 45) (tt := 271) (r := []) zq_293 zo_293 hc rfl rfl rfl ?_
        refine zv_p (k := 1) (f' := (272, [(0, .ref p0), (1, .ref p1), (2, .int p2), (4, .int p3), (5, .int p4), (6, .int p5), (7, .int p6), (8, .int p7), (9, .long p8), (11, .long p9), (13, .long p10), (15, .int p11), (16, .long p12), (18, .int p13), (19, .int p14), (20, .int p15), (21, .int p16)], [.int (0 : Int32)])) zq_293 zo_293 (by with_unfolding_all rfl) ?_
        cases hf
        exact zv_rn zq_293 zo_293 rfl rfl
      · refine zv_brF (off := 45) (tt := 271) (r := []) zq_293 zo_293 hc rfl rfl rfl ?_
        refine zv_p (k := 3) (f' := (233, [(0, .ref p0), (1, .ref p1), (2, .int p2), (4, .int p3), (5, .int p4), (6, .int p5), (7, .int p6), (8, .int p7), (9, .long p8), (11, .long p9), (13, .long p10), (15, .int p11), (16, .long p12), (18, .int p13), (19, .int p14), (20, .int p15), (21, .int p16)], [.int (1 : Int32), .int p11, .ref p0])) zq_293 zo_293 (by with_unfolding_all rfl) ?_
        replace hf := zf_be hf
        obtain ⟨_, ho, hf⟩ := hf
        replace hf := zf_b3e hf
        obtain ⟨v4, h5, hv, hf⟩ | ⟨E6, h5, hv, hf⟩ := hf
        rotate_left
        · cases hf; exact zv_cx zq_293 zo_293 rfl rfl rfl rfl rfl (zv_cv rfl rfl rfl (zf_ise ho) rfl) (t_f_ColumnVault_groupAt _ _ _ _ _ _ hv) rfl
        refine zv_c zq_293 zo_293 rfl rfl rfl rfl rfl (zv_cv rfl rfl rfl (zf_ise ho) rfl) (t_f_ColumnVault_groupAt _ _ _ _ _ _ hv) ?_
        refine zv_p (k := 3) (f' := (240, [(0, .ref p0), (1, .ref p1), (2, .int p2), (4, .int p3), (5, .int p4), (6, .int p5), (7, .int p6), (8, .int p7), (9, .long p8), (11, .long p9), (13, .long p10), (15, .int p11), (16, .long p12), (18, .int p13), (19, .int p14), (20, .int p15), (21, .int p16)], [.int (lg_cmp v4 ((p13).toInt64))])) zq_293 zo_293 (by with_unfolding_all rfl) ?_
        replace hf := zf_ite hf
        obtain ⟨hc, hf⟩ | ⟨hc, hf⟩ := hf
        · refine zv_brT (off := 31) (tt := 271) (r := []) zq_293 zo_293 (zl_ne.mpr hc) rfl rfl rfl ?_
          refine zv_p (k := 1) (f' := (272, [(0, .ref p0), (1, .ref p1), (2, .int p2), (4, .int p3), (5, .int p4), (6, .int p5), (7, .int p6), (8, .int p7), (9, .long p8), (11, .long p9), (13, .long p10), (15, .int p11), (16, .long p12), (18, .int p13), (19, .int p14), (20, .int p15), (21, .int p16)], [.int (0 : Int32)])) zq_293 zo_293 (by with_unfolding_all rfl) ?_
          cases hf
          exact zv_rn zq_293 zo_293 rfl rfl
        · refine zv_brF (off := 31) (tt := 271) (r := []) zq_293 zo_293 (mt zl_ne.mp hc) rfl rfl rfl ?_
          refine zv_p (k := 3) (f' := (247, [(0, .ref p0), (1, .ref p1), (2, .int p2), (4, .int p3), (5, .int p4), (6, .int p5), (7, .int p6), (8, .int p7), (9, .long p8), (11, .long p9), (13, .long p10), (15, .int p11), (16, .long p12), (18, .int p13), (19, .int p14), (20, .int p15), (21, .int p16)], [.int (2 : Int32), .int p11, .ref p0])) zq_293 zo_293 (by with_unfolding_all rfl) ?_
          replace hf := zf_be hf
          obtain ⟨_, ho, hf⟩ := hf
          replace hf := zf_b3e hf
          obtain ⟨v7, h8, hv, hf⟩ | ⟨E9, h8, hv, hf⟩ := hf
          rotate_left
          · cases hf; exact zv_cx zq_293 zo_293 rfl rfl rfl rfl rfl (zv_cv rfl rfl rfl (zf_ise ho) rfl) (t_f_ColumnVault_groupAt _ _ _ _ _ _ hv) rfl
          refine zv_c zq_293 zo_293 rfl rfl rfl rfl rfl (zv_cv rfl rfl rfl (zf_ise ho) rfl) (t_f_ColumnVault_groupAt _ _ _ _ _ _ hv) ?_
          refine zv_p (k := 3) (f' := (254, [(0, .ref p0), (1, .ref p1), (2, .int p2), (4, .int p3), (5, .int p4), (6, .int p5), (7, .int p6), (8, .int p7), (9, .long p8), (11, .long p9), (13, .long p10), (15, .int p11), (16, .long p12), (18, .int p13), (19, .int p14), (20, .int p15), (21, .int p16)], [.int (lg_cmp v7 ((p14).toInt64))])) zq_293 zo_293 (by with_unfolding_all rfl) ?_
          replace hf := zf_ite hf
          obtain ⟨hc, hf⟩ | ⟨hc, hf⟩ := hf
          · refine zv_brT (off := 17) (tt := 271) (r := []) zq_293 zo_293 (zl_ne.mpr hc) rfl rfl rfl ?_
            refine zv_p (k := 1) (f' := (272, [(0, .ref p0), (1, .ref p1), (2, .int p2), (4, .int p3), (5, .int p4), (6, .int p5), (7, .int p6), (8, .int p7), (9, .long p8), (11, .long p9), (13, .long p10), (15, .int p11), (16, .long p12), (18, .int p13), (19, .int p14), (20, .int p15), (21, .int p16)], [.int (0 : Int32)])) zq_293 zo_293 (by with_unfolding_all rfl) ?_
            cases hf
            exact zv_rn zq_293 zo_293 rfl rfl
          · refine zv_brF (off := 17) (tt := 271) (r := []) zq_293 zo_293 (mt zl_ne.mp hc) rfl rfl rfl ?_
            refine zv_p (k := 3) (f' := (261, [(0, .ref p0), (1, .ref p1), (2, .int p2), (4, .int p3), (5, .int p4), (6, .int p5), (7, .int p6), (8, .int p7), (9, .long p8), (11, .long p9), (13, .long p10), (15, .int p11), (16, .long p12), (18, .int p13), (19, .int p14), (20, .int p15), (21, .int p16)], [.int (3 : Int32), .int p11, .ref p0])) zq_293 zo_293 (by with_unfolding_all rfl) ?_
            replace hf := zf_be hf
            obtain ⟨_, ho, hf⟩ := hf
            replace hf := zf_b3e hf
            obtain ⟨v10, h11, hv, hf⟩ | ⟨E12, h11, hv, hf⟩ := hf
            rotate_left
            · cases hf; exact zv_cx zq_293 zo_293 rfl rfl rfl rfl rfl (zv_cv rfl rfl rfl (zf_ise ho) rfl) (t_f_ColumnVault_groupAt _ _ _ _ _ _ hv) rfl
            refine zv_c zq_293 zo_293 rfl rfl rfl rfl rfl (zv_cv rfl rfl rfl (zf_ise ho) rfl) (t_f_ColumnVault_groupAt _ _ _ _ _ _ hv) ?_
            refine zv_p (k := 3) (f' := (268, [(0, .ref p0), (1, .ref p1), (2, .int p2), (4, .int p3), (5, .int p4), (6, .int p5), (7, .int p6), (8, .int p7), (9, .long p8), (11, .long p9), (13, .long p10), (15, .int p11), (16, .long p12), (18, .int p13), (19, .int p14), (20, .int p15), (21, .int p16)], [.int (lg_cmp v10 ((p15).toInt64))])) zq_293 zo_293 (by with_unfolding_all rfl) ?_
            replace hf := zf_ite hf
            obtain ⟨hc, hf⟩ | ⟨hc, hf⟩ := hf
            · refine zv_brT (off := 5) (tt := 273) (r := []) zq_293 zo_293 (zl_eq.mpr hc) rfl rfl rfl ?_
              refine zv_p (k := 6) (f' := (284, [(8, .int (p7 + p13)), (0, .ref p0), (1, .ref p1), (2, .int p2), (4, .int p3), (5, .int p4), (6, .int p5), (7, .int p6), (9, .long p8), (11, .long p9), (13, .long p10), (15, .int p11), (16, .long p12), (18, .int p13), (19, .int p14), (20, .int p15), (21, .int p16)], [.int p5, .long p8])) zq_293 zo_293 (by with_unfolding_all rfl) ?_
              replace hf := zf_ite hf
              obtain ⟨hc, hf⟩ | ⟨hc, hf⟩ := hf
              · refine zv_brT (off := 15) (tt := 299) (r := [.long p8]) zq_293 zo_293 hc rfl rfl rfl ?_
                refine zv_p (k := 1) (f' := (300, [(8, .int (p7 + p13)), (0, .ref p0), (1, .ref p1), (2, .int p2), (4, .int p3), (5, .int p4), (6, .int p5), (7, .int p6), (9, .long p8), (11, .long p9), (13, .long p10), (15, .int p11), (16, .long p12), (18, .int p13), (19, .int p14), (20, .int p15), (21, .int p16)], [.long (0 : Int64), .long p8])) zq_293 zo_293 (by with_unfolding_all rfl) ?_
                refine zv_pick (lv' := [(0, .ref p0), (1, .ref p1), (2, .int p2), (4, .int p3), (5, .int p4), (6, .int p5), (7, .int p6), (8, .int (p7 + p13)), (11, .long p9), (13, .long p10), (15, .int p11)]) [0, 1, 2, 4, 5, 6, 7, 8, 11, 13, 15] rfl rfl ?_
                exact t_f_ColumnVaultLaw_isGrouped_300 hk64 _ _ _ _ _ _ _ _ _ _ _ _ _ _ _ _ hf
              · refine zv_brF (off := 15) (tt := 299) (r := [.long p8]) zq_293 zo_293 hc rfl rfl rfl ?_
                refine zv_p (k := 4) (f' := (293, [(8, .int (p7 + p13)), (0, .ref p0), (1, .ref p1), (2, .int p2), (4, .int p3), (5, .int p4), (6, .int p5), (7, .int p6), (9, .long p8), (11, .long p9), (13, .long p10), (15, .int p11), (16, .long p12), (18, .int p13), (19, .int p14), (20, .int p15), (21, .int p16)], [.int (1 : Int32), .int p4, .int p11, .ref p0, .long p8])) zq_293 zo_293 (by with_unfolding_all rfl) ?_
                replace hf := zf_be hf
                obtain ⟨_, ho, hf⟩ := hf
                replace hf := zf_b3e hf
                obtain ⟨v13, h14, hv, hf⟩ | ⟨E15, h14, hv, hf⟩ := hf
                rotate_left
                · cases hf; exact zv_cx zq_293 zo_293 rfl rfl rfl rfl rfl (zv_cv rfl rfl rfl (zf_ise ho) rfl) (t_f_ColumnVault_groupTotal _ _ _ _ _ _ _ hv) rfl
                refine zv_c zq_293 zo_293 rfl rfl rfl rfl rfl (zv_cv rfl rfl rfl (zf_ise ho) rfl) (t_f_ColumnVault_groupTotal _ _ _ _ _ _ _ hv) ?_
                refine zv_p (k := 1) (f' := (300, [(8, .int (p7 + p13)), (0, .ref p0), (1, .ref p1), (2, .int p2), (4, .int p3), (5, .int p4), (6, .int p5), (7, .int p6), (9, .long p8), (11, .long p9), (13, .long p10), (15, .int p11), (16, .long p12), (18, .int p13), (19, .int p14), (20, .int p15), (21, .int p16)], [.long v13, .long p8])) zq_293 zo_293 (by with_unfolding_all rfl) ?_
                refine zv_pick (lv' := [(0, .ref p0), (1, .ref p1), (2, .int p2), (4, .int p3), (5, .int p4), (6, .int p5), (7, .int p6), (8, .int (p7 + p13)), (11, .long p9), (13, .long p10), (15, .int p11)]) [0, 1, 2, 4, 5, 6, 7, 8, 11, 13, 15] rfl rfl ?_
                exact t_f_ColumnVaultLaw_isGrouped_300 hk64 _ _ _ _ _ _ _ _ _ _ _ _ _ _ _ _ hf
            · refine zv_brF (off := 5) (tt := 273) (r := []) zq_293 zo_293 (mt zl_eq.mp hc) rfl rfl rfl ?_
              refine zv_p (k := 1) (f' := (272, [(0, .ref p0), (1, .ref p1), (2, .int p2), (4, .int p3), (5, .int p4), (6, .int p5), (7, .int p6), (8, .int p7), (9, .long p8), (11, .long p9), (13, .long p10), (15, .int p11), (16, .long p12), (18, .int p13), (19, .int p14), (20, .int p15), (21, .int p16)], [.int (0 : Int32)])) zq_293 zo_293 (by with_unfolding_all rfl) ?_
              cases hf
              exact zv_rn zq_293 zo_293 rfl rfl
    · refine zv_brF (off := 68) (tt := 224) (r := []) zq_293 zo_293 hc rfl rfl rfl ?_
      refine zv_p (k := 3) (f' := (163, [(0, .ref p0), (1, .ref p1), (2, .int p2), (4, .int p3), (5, .int p4), (6, .int p5), (7, .int p6), (8, .int p7), (9, .long p8), (11, .long p9), (13, .long p10), (15, .int p11), (16, .long p12), (18, .int p13), (19, .int p14), (20, .int p15), (21, .int p16)], [.int p16, .int p2, .ref p0])) zq_293 zo_293 (by with_unfolding_all rfl) ?_
      replace hf := zf_be hf
      obtain ⟨_, ho, hf⟩ := hf
      replace hf := zf_b3e hf
      obtain ⟨v16, h17, hv, hf⟩ | ⟨E18, h17, hv, hf⟩ := hf
      rotate_left
      · cases hf; exact zv_cx zq_293 zo_293 rfl rfl rfl rfl rfl (zv_cv rfl rfl rfl (zf_ise ho) rfl) (t_f_ColumnVault_rowAt _ _ _ _ _ _ hv) rfl
      refine zv_c zq_293 zo_293 rfl rfl rfl rfl rfl (zv_cv rfl rfl rfl (zf_ise ho) rfl) (t_f_ColumnVault_rowAt _ _ _ _ _ _ hv) ?_
      refine zv_p (k := 4) (f' := (172, [(22, .int v16), (0, .ref p0), (1, .ref p1), (2, .int p2), (4, .int p3), (5, .int p4), (6, .int p5), (7, .int p6), (8, .int p7), (9, .long p8), (11, .long p9), (13, .long p10), (15, .int p11), (16, .long p12), (18, .int p13), (19, .int p14), (20, .int p15), (21, .int p16)], [.int v16, .int p2, .ref p0])) zq_293 zo_293 (by with_unfolding_all rfl) ?_
      replace hf := zf_be hf
      obtain ⟨_, ho, hf⟩ := hf
      replace hf := zf_b3e hf
      obtain ⟨v19, h20, hv, hf⟩ | ⟨E21, h20, hv, hf⟩ := hf
      rotate_left
      · cases hf; exact zv_cx zq_293 zo_293 rfl rfl rfl rfl rfl (zv_cv rfl rfl rfl (zf_ise ho) rfl) (t_f_ColumnVault_isChosen _ _ _ _ _ _ hv) rfl
      refine zv_c zq_293 zo_293 rfl rfl rfl rfl rfl (zv_cv rfl rfl rfl (zf_ise ho) rfl) (t_f_ColumnVault_isChosen _ _ _ _ _ _ hv) ?_
      replace hf := zf_ite hf
      obtain ⟨hc, hf⟩ | ⟨hc, hf⟩ := hf
      · refine zv_brT (off := 43) (tt := 218) (r := []) zq_293 zo_293 hc rfl rfl rfl ?_
        refine zv_p (k := 2) (f' := (148, [(21, .int (p16 + (1 : Int32))), (22, .int v16), (0, .ref p0), (1, .ref p1), (2, .int p2), (4, .int p3), (5, .int p4), (6, .int p5), (7, .int p6), (8, .int p7), (9, .long p8), (11, .long p9), (13, .long p10), (15, .int p11), (16, .long p12), (18, .int p13), (19, .int p14), (20, .int p15)], [])) zq_293 zo_293 (by with_unfolding_all rfl) ?_
        refine zv_pick (lv' := [(0, .ref p0), (1, .ref p1), (2, .int p2), (4, .int p3), (5, .int p4), (6, .int p5), (7, .int p6), (8, .int p7), (9, .long p8), (11, .long p9), (13, .long p10), (15, .int p11), (16, .long p12), (18, .int p13), (19, .int p14), (20, .int p15), (21, .int (p16 + (1 : Int32)))]) [0, 1, 2, 4, 5, 6, 7, 8, 9, 11, 13, 15, 16, 18, 19, 20, 21] rfl rfl ?_
        exact ih _ _ _ _ _ _ _ _ _ _ _ _ _ _ _ _ _ _ _ _ hf
      · refine zv_brF (off := 43) (tt := 218) (r := []) zq_293 zo_293 hc rfl rfl rfl ?_
        refine zv_p (k := 4) (f' := (184, [(22, .int v16), (0, .ref p0), (1, .ref p1), (2, .int p2), (4, .int p3), (5, .int p4), (6, .int p5), (7, .int p6), (8, .int p7), (9, .long p8), (11, .long p9), (13, .long p10), (15, .int p11), (16, .long p12), (18, .int p13), (19, .int p14), (20, .int p15), (21, .int p16)], [.int p3, .int v16, .int p2, .ref p0])) zq_293 zo_293 (by with_unfolding_all rfl) ?_
        replace hf := zf_be hf
        obtain ⟨_, ho, hf⟩ := hf
        replace hf := zf_b3e hf
        obtain ⟨v22, h23, hv, hf⟩ | ⟨E24, h23, hv, hf⟩ := hf
        rotate_left
        · cases hf; exact zv_cx zq_293 zo_293 rfl rfl rfl rfl rfl (zv_cv rfl rfl rfl (zf_ise ho) rfl) (t_f_ColumnVault_get _ _ _ _ _ _ _ hv) rfl
        refine zv_c zq_293 zo_293 rfl rfl rfl rfl rfl (zv_cv rfl rfl rfl (zf_ise ho) rfl) (t_f_ColumnVault_get _ _ _ _ _ _ _ hv) ?_
        refine zv_p (k := 2) (f' := (190, [(22, .int v16), (0, .ref p0), (1, .ref p1), (2, .int p2), (4, .int p3), (5, .int p4), (6, .int p5), (7, .int p6), (8, .int p7), (9, .long p8), (11, .long p9), (13, .long p10), (15, .int p11), (16, .long p12), (18, .int p13), (19, .int p14), (20, .int p15), (21, .int p16)], [.int (lg_cmp v22 p12)])) zq_293 zo_293 (by with_unfolding_all rfl) ?_
        replace hf := zf_ite hf
        obtain ⟨hc, hf⟩ | ⟨hc, hf⟩ := hf
        · refine zv_brT (off := 6) (tt := 196) (r := []) zq_293 zo_293 (zl_eq.mpr hc) rfl rfl rfl ?_
          refine zv_p (k := 3) (f' := (202, [(18, .int (p13 + (1 : Int32))), (22, .int v16), (0, .ref p0), (1, .ref p1), (2, .int p2), (4, .int p3), (5, .int p4), (6, .int p5), (7, .int p6), (8, .int p7), (9, .long p8), (11, .long p9), (13, .long p10), (15, .int p11), (16, .long p12), (19, .int p14), (20, .int p15), (21, .int p16)], [.int (-1 : Int32), .int p14])) zq_293 zo_293 (by with_unfolding_all rfl) ?_
          replace hf := zf_ite hf
          obtain ⟨hc, hf⟩ | ⟨hc, hf⟩ := hf
          · refine zv_brT (off := 8) (tt := 210) (r := []) zq_293 zo_293 hc rfl rfl rfl ?_
            refine zv_p (k := 6) (f' := (148, [(21, .int (p16 + (1 : Int32))), (20, .int v16), (19, .int p14), (18, .int (p13 + (1 : Int32))), (22, .int v16), (0, .ref p0), (1, .ref p1), (2, .int p2), (4, .int p3), (5, .int p4), (6, .int p5), (7, .int p6), (8, .int p7), (9, .long p8), (11, .long p9), (13, .long p10), (15, .int p11), (16, .long p12)], [])) zq_293 zo_293 (by with_unfolding_all rfl) ?_
            refine zv_pick (lv' := [(0, .ref p0), (1, .ref p1), (2, .int p2), (4, .int p3), (5, .int p4), (6, .int p5), (7, .int p6), (8, .int p7), (9, .long p8), (11, .long p9), (13, .long p10), (15, .int p11), (16, .long p12), (18, .int (p13 + (1 : Int32))), (19, .int p14), (20, .int v16), (21, .int (p16 + (1 : Int32)))]) [0, 1, 2, 4, 5, 6, 7, 8, 9, 11, 13, 15, 16, 18, 19, 20, 21] rfl rfl ?_
            exact ih _ _ _ _ _ _ _ _ _ _ _ _ _ _ _ _ _ _ _ _ hf
          · refine zv_brF (off := 8) (tt := 210) (r := []) zq_293 zo_293 hc rfl rfl rfl ?_
            refine zv_p (k := 7) (f' := (148, [(21, .int (p16 + (1 : Int32))), (20, .int v16), (19, .int v16), (18, .int (p13 + (1 : Int32))), (22, .int v16), (0, .ref p0), (1, .ref p1), (2, .int p2), (4, .int p3), (5, .int p4), (6, .int p5), (7, .int p6), (8, .int p7), (9, .long p8), (11, .long p9), (13, .long p10), (15, .int p11), (16, .long p12)], [])) zq_293 zo_293 (by with_unfolding_all rfl) ?_
            refine zv_pick (lv' := [(0, .ref p0), (1, .ref p1), (2, .int p2), (4, .int p3), (5, .int p4), (6, .int p5), (7, .int p6), (8, .int p7), (9, .long p8), (11, .long p9), (13, .long p10), (15, .int p11), (16, .long p12), (18, .int (p13 + (1 : Int32))), (19, .int v16), (20, .int v16), (21, .int (p16 + (1 : Int32)))]) [0, 1, 2, 4, 5, 6, 7, 8, 9, 11, 13, 15, 16, 18, 19, 20, 21] rfl rfl ?_
            exact ih _ _ _ _ _ _ _ _ _ _ _ _ _ _ _ _ _ _ _ _ hf
        · refine zv_brF (off := 6) (tt := 196) (r := []) zq_293 zo_293 (mt zl_eq.mp hc) rfl rfl rfl ?_
          refine zv_p (k := 3) (f' := (148, [(21, .int (p16 + (1 : Int32))), (22, .int v16), (0, .ref p0), (1, .ref p1), (2, .int p2), (4, .int p3), (5, .int p4), (6, .int p5), (7, .int p6), (8, .int p7), (9, .long p8), (11, .long p9), (13, .long p10), (15, .int p11), (16, .long p12), (18, .int p13), (19, .int p14), (20, .int p15)], [])) zq_293 zo_293 (by with_unfolding_all rfl) ?_
          refine zv_pick (lv' := [(0, .ref p0), (1, .ref p1), (2, .int p2), (4, .int p3), (5, .int p4), (6, .int p5), (7, .int p6), (8, .int p7), (9, .long p8), (11, .long p9), (13, .long p10), (15, .int p11), (16, .long p12), (18, .int p13), (19, .int p14), (20, .int p15), (21, .int (p16 + (1 : Int32)))]) [0, 1, 2, 4, 5, 6, 7, 8, 9, 11, 13, 15, 16, 18, 19, 20, 21] rfl rfl ?_
          exact ih _ _ _ _ _ _ _ _ _ _ _ _ _ _ _ _ _ _ _ _ hf
set_option maxHeartbeats 1000000 in
def f_ColumnVaultLaw_isGrouped_564 (p0 : Nat) (p1 : Int32) (p2 : Int32) (p3 : Int32) (h : zx_H) : Option ((Int32 ⊕ Nat) × zx_H) :=
  if p3 = 0 then
    some (.inl (1 : Int32), h)
  else
    zf_b (zf_is 12 p0 h) fun _ =>
    zf_b3 (f_ColumnVault_total p0 p1 p2 (0 : Int32) h) fun v1 h2 =>
    if v1 = (0 : Int64) then
      some (.inl (1 : Int32), h2)
    else
      zf_b (zf_is 12 p0 h2) fun _ =>
      zf_b3 (f_ColumnVault_meanOf p0 p1 p2 h2) fun v4 h5 =>
      zf_b (zf_is 12 p0 h5) fun _ =>
      zf_b3 (f_ColumnVault_total p0 p1 p2 (1 : Int32) h5) fun v7 h8 =>
      zf_b (zf_is 12 p0 h8) fun _ =>
      zf_b3 (f_ColumnVault_total p0 p1 p2 (0 : Int32) h8) fun v10 h11 =>
      if (FP.ddiv (FP.l2d v7) (FP.l2d v10)) &&& 0x7fffffffffffffff ≤ 0x7ff0000000000000 then
      if ¬ (Op.cmpValue (FP.dcmp v4 (FP.ddiv (FP.l2d v7) (FP.l2d v10))) .l) = 0 then
        some (.inl (0 : Int32), h11)
      else
        some (.inl (1 : Int32), h11)
      else none
set_option maxHeartbeats 4000000 in
set_option maxRecDepth 400000 in
theorem t_f_ColumnVaultLaw_isGrouped_564 {sc : (Nat × (Nat → Int32)) × Bool} {d : Nat} (p0 : Nat) (p1 : Int32) (p2 : Int32) (p3 : Int32) (h : zx_H) (r : (Int32 ⊕ Nat)) (h' : zx_H) (hf : f_ColumnVaultLaw_isGrouped_564 p0 p1 p2 p3 h = some (r, h')) : zx_T sc (d + 125) 293 (564, [(0, .ref p0), (2, .int p1), (5, .int p2), (6, .int p3)], []) h (zf_oIx r) h' := by
  unfold f_ColumnVaultLaw_isGrouped_564 at hf
  refine zv_p (k := 1) (f' := (566, [(0, .ref p0), (2, .int p1), (5, .int p2), (6, .int p3)], [.int p3])) zq_293 zo_293 (by with_unfolding_all rfl) ?_
  replace hf := zf_ite hf
  obtain ⟨hc, hf⟩ | ⟨hc, hf⟩ := hf
  · refine zv_brT (off := 46) (tt := 612) (r := []) zq_293 zo_293 hc rfl rfl rfl ?_
    refine zv_p (k := 2) (f' := (617, [(0, .ref p0), (2, .int p1), (5, .int p2), (6, .int p3)], [.int (1 : Int32)])) zq_293 zo_293 (by with_unfolding_all rfl) ?_
    cases hf
    exact zv_rn zq_293 zo_293 rfl rfl
  · refine zv_brF (off := 46) (tt := 612) (r := []) zq_293 zo_293 hc rfl rfl rfl ?_
    refine zv_p (k := 4) (f' := (574, [(0, .ref p0), (2, .int p1), (5, .int p2), (6, .int p3)], [.int (0 : Int32), .int p2, .int p1, .ref p0])) zq_293 zo_293 (by with_unfolding_all rfl) ?_
    replace hf := zf_be hf
    obtain ⟨_, ho, hf⟩ := hf
    replace hf := zf_b3e hf
    obtain ⟨v1, h2, hv, hf⟩ | ⟨E3, h2, hv, hf⟩ := hf
    rotate_left
    · cases hf; exact zv_cx zq_293 zo_293 rfl rfl rfl rfl rfl (zv_cv rfl rfl rfl (zf_ise ho) rfl) (t_f_ColumnVault_total _ _ _ _ _ _ _ hv) rfl
    refine zv_c zq_293 zo_293 rfl rfl rfl rfl rfl (zv_cv rfl rfl rfl (zf_ise ho) rfl) (t_f_ColumnVault_total _ _ _ _ _ _ _ hv) ?_
    refine zv_p (k := 2) (f' := (579, [(0, .ref p0), (2, .int p1), (5, .int p2), (6, .int p3)], [.int (lg_cmp v1 (0 : Int64))])) zq_293 zo_293 (by with_unfolding_all rfl) ?_
    replace hf := zf_ite hf
    obtain ⟨hc, hf⟩ | ⟨hc, hf⟩ := hf
    · refine zv_brT (off := 33) (tt := 612) (r := []) zq_293 zo_293 (zl_eq.mpr hc) rfl rfl rfl ?_
      refine zv_p (k := 2) (f' := (617, [(0, .ref p0), (2, .int p1), (5, .int p2), (6, .int p3)], [.int (1 : Int32)])) zq_293 zo_293 (by with_unfolding_all rfl) ?_
      cases hf
      exact zv_rn zq_293 zo_293 rfl rfl
    · refine zv_brF (off := 33) (tt := 612) (r := []) zq_293 zo_293 (mt zl_eq.mp hc) rfl rfl rfl ?_
      refine zv_p (k := 3) (f' := (586, [(0, .ref p0), (2, .int p1), (5, .int p2), (6, .int p3)], [.int p2, .int p1, .ref p0])) zq_293 zo_293 (by with_unfolding_all rfl) ?_
      replace hf := zf_be hf
      obtain ⟨_, ho, hf⟩ := hf
      replace hf := zf_b3e hf
      obtain ⟨v4, h5, hv, hf⟩ | ⟨E6, h5, hv, hf⟩ := hf
      rotate_left
      · cases hf; exact zv_cx zq_293 zo_293 rfl rfl rfl rfl rfl (zv_cv rfl rfl rfl (zf_ise ho) rfl) (t_f_ColumnVault_meanOf _ _ _ _ _ _ hv) rfl
      refine zv_c zq_293 zo_293 rfl rfl rfl rfl rfl (zv_cv rfl rfl rfl (zf_ise ho) rfl) (t_f_ColumnVault_meanOf _ _ _ _ _ _ hv) ?_
      refine zv_p (k := 4) (f' := (594, [(0, .ref p0), (2, .int p1), (5, .int p2), (6, .int p3)], [.int (1 : Int32), .int p2, .int p1, .ref p0, .double v4])) zq_293 zo_293 (by with_unfolding_all rfl) ?_
      replace hf := zf_be hf
      obtain ⟨_, ho, hf⟩ := hf
      replace hf := zf_b3e hf
      obtain ⟨v7, h8, hv, hf⟩ | ⟨E9, h8, hv, hf⟩ := hf
      rotate_left
      · cases hf; exact zv_cx zq_293 zo_293 rfl rfl rfl rfl rfl (zv_cv rfl rfl rfl (zf_ise ho) rfl) (t_f_ColumnVault_total _ _ _ _ _ _ _ hv) rfl
      refine zv_c zq_293 zo_293 rfl rfl rfl rfl rfl (zv_cv rfl rfl rfl (zf_ise ho) rfl) (t_f_ColumnVault_total _ _ _ _ _ _ _ hv) ?_
      refine zv_p (k := 5) (f' := (603, [(0, .ref p0), (2, .int p1), (5, .int p2), (6, .int p3)], [.int (0 : Int32), .int p2, .int p1, .ref p0, .double (FP.l2d v7), .double v4])) zq_293 zo_293 (by with_unfolding_all rfl) ?_
      replace hf := zf_be hf
      obtain ⟨_, ho, hf⟩ := hf
      replace hf := zf_b3e hf
      obtain ⟨v10, h11, hv, hf⟩ | ⟨E12, h11, hv, hf⟩ := hf
      rotate_left
      · cases hf; exact zv_cx zq_293 zo_293 rfl rfl rfl rfl rfl (zv_cv rfl rfl rfl (zf_ise ho) rfl) (t_f_ColumnVault_total _ _ _ _ _ _ _ hv) rfl
      refine zv_c zq_293 zo_293 rfl rfl rfl rfl rfl (zv_cv rfl rfl rfl (zf_ise ho) rfl) (t_f_ColumnVault_total _ _ _ _ _ _ _ hv) ?_
      refine zv_p (k := 1) (f' := (607, [(0, .ref p0), (2, .int p1), (5, .int p2), (6, .int p3)], [.double (FP.l2d v10), .double (FP.l2d v7), .double v4])) zq_293 zo_293 (by with_unfolding_all rfl) ?_
      replace hf := zf_ite hf
      obtain ⟨hc, hf⟩ | ⟨hc, hf⟩ := hf
      rotate_left
      · cases hf
      refine zv_ddiv zq_293 zo_293 rfl hc ?_
      refine zv_p (k := 1) (f' := (609, [(0, .ref p0), (2, .int p1), (5, .int p2), (6, .int p3)], [.int (Op.cmpValue (FP.dcmp v4 (FP.ddiv (FP.l2d v7) (FP.l2d v10))) .l)])) zq_293 zo_293 (by with_unfolding_all rfl) ?_
      replace hf := zf_ite hf
      obtain ⟨hc, hf⟩ | ⟨hc, hf⟩ := hf
      · refine zv_brT (off := 7) (tt := 616) (r := []) zq_293 zo_293 hc rfl rfl rfl ?_
        refine zv_p (k := 1) (f' := (617, [(0, .ref p0), (2, .int p1), (5, .int p2), (6, .int p3)], [.int (0 : Int32)])) zq_293 zo_293 (by with_unfolding_all rfl) ?_
        cases hf
        exact zv_rn zq_293 zo_293 rfl rfl
      · refine zv_brF (off := 7) (tt := 616) (r := []) zq_293 zo_293 hc rfl rfl rfl ?_
        refine zv_p (k := 2) (f' := (617, [(0, .ref p0), (2, .int p1), (5, .int p2), (6, .int p3)], [.int (1 : Int32)])) zq_293 zo_293 (by with_unfolding_all rfl) ?_
        cases hf
        exact zv_rn zq_293 zo_293 rfl rfl
