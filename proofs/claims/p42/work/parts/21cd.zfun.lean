set_option maxHeartbeats 1000000 in
def f_ColumnVaultLaw_isTold_463 (k90 : Nat → Int32 → Int32 → Int32 → Int32 → Int32 → Int64 → Int64 → Int32 → Int32 → Int64 → Int64 → Int64 → Int32 → zx_H → Option ((Int32 ⊕ Nat) × zx_H)) (p0 : Nat) (p1 : Int32) (p2 : Int32) (p3 : Int32) (p4 : Int32) (p5 : Int32) (p6 : Int64) (p7 : Int64) (p8 : Int32) (p9 : Int32) (p10 : Int64) (p11 : Int64) (p12 : Int32) (p13 : Int64) (p14 : Int64) (h : zx_H) : Option ((Int32 ⊕ Nat) × zx_H) :=
  zf_b2 (f_ColumnVaultLaw_than p3 p13 p6 h) fun v1 h2 =>
  if v1 < 0 then
    k90 p0 p1 p2 p3 p4 p5 p6 p7 p8 p9 p14 p10 p11 (p12 + (1 : Int32)) h2
  else
    if p10 = (-3000000002 : Int64) then
      k90 p0 p1 p2 p3 p4 p5 p6 p7 p8 p9 p14 p13 p11 (p12 + (1 : Int32)) h2
    else
      zf_b2 (f_ColumnVaultLaw_than p3 p13 p10 h2) fun v3 h4 =>
      if 0 ≤ v3 then
        k90 p0 p1 p2 p3 p4 p5 p6 p7 p8 p9 p14 p10 p11 (p12 + (1 : Int32)) h4
      else
        k90 p0 p1 p2 p3 p4 p5 p6 p7 p8 p9 p14 p13 p11 (p12 + (1 : Int32)) h4
set_option maxHeartbeats 4000000 in
set_option maxRecDepth 400000 in
theorem t_f_ColumnVaultLaw_isTold_463 {sc : (Nat × (Nat → Int32)) × Bool} {d : Nat} {k90 : Nat → Int32 → Int32 → Int32 → Int32 → Int32 → Int64 → Int64 → Int32 → Int32 → Int64 → Int64 → Int64 → Int32 → zx_H → Option ((Int32 ⊕ Nat) × zx_H)} (hk90 : ∀ (a0 : Nat) (a1 : Int32) (a2 : Int32) (a3 : Int32) (a4 : Int32) (a5 : Int32) (a6 : Int64) (a7 : Int64) (a8 : Int32) (a9 : Int32) (a10 : Int64) (a11 : Int64) (a12 : Int64) (a13 : Int32) (h : zx_H) (r : (Int32 ⊕ Nat)) (h' : zx_H), k90 a0 a1 a2 a3 a4 a5 a6 a7 a8 a9 a10 a11 a12 a13 h = some (r, h') → zx_T sc (d + 125) 296 (90, [(0, .ref a0), (2, .int a1), (3, .int a2), (4, .int a3), (5, .int a4), (6, .int a5), (7, .long a6), (9, .long a7), (11, .int a8), (12, .int a9), (13, .long a10), (15, .long a11), (17, .long a12), (19, .int a13)], []) h (zf_oIx r) h') (p0 : Nat) (p1 : Int32) (p2 : Int32) (p3 : Int32) (p4 : Int32) (p5 : Int32) (p6 : Int64) (p7 : Int64) (p8 : Int32) (p9 : Int32) (p10 : Int64) (p11 : Int64) (p12 : Int32) (p13 : Int64) (p14 : Int64) (h : zx_H) (r : (Int32 ⊕ Nat)) (h' : zx_H) (hf : f_ColumnVaultLaw_isTold_463 k90 p0 p1 p2 p3 p4 p5 p6 p7 p8 p9 p10 p11 p12 p13 p14 h = some (r, h')) : zx_T sc (d + 125) 296 (463, [(0, .ref p0), (2, .int p1), (3, .int p2), (4, .int p3), (5, .int p4), (6, .int p5), (7, .long p6), (9, .long p7), (11, .int p8), (12, .int p9), (15, .long p10), (17, .long p11), (19, .int p12), (21, .long p13)], [.long p14]) h (zf_oIx r) h' := by
  unfold f_ColumnVaultLaw_isTold_463 at hf
  refine zv_p (k := 4) (f' := (471, [(13, .long p14), (0, .ref p0), (2, .int p1), (3, .int p2), (4, .int p3), (5, .int p4), (6, .int p5), (7, .long p6), (9, .long p7), (11, .int p8), (12, .int p9), (15, .long p10), (17, .long p11), (19, .int p12), (21, .long p13)], [.long p6, .long p13, .int p3])) zq_296 zo_296 (by with_unfolding_all rfl) ?_
  replace hf := zf_b2e hf
  obtain ⟨v1, h2, hv, hf⟩ := hf
  refine zv_c zq_296 zo_296 rfl rfl rfl rfl rfl rfl (t_f_ColumnVaultLaw_than _ _ _ _ _ _ hv) ?_
  replace hf := zf_ite hf
  obtain ⟨hc, hf⟩ | ⟨hc, hf⟩ := hf
  · refine zv_brT (off := 29) (tt := 503) (r := []) zq_296 zo_296 hc rfl rfl rfl ?_
    refine zv_p (k := 4) (f' := (90, [(19, .int (p12 + (1 : Int32))), (15, .long p10), (13, .long p14), (0, .ref p0), (2, .int p1), (3, .int p2), (4, .int p3), (5, .int p4), (6, .int p5), (7, .long p6), (9, .long p7), (11, .int p8), (12, .int p9), (17, .long p11), (21, .long p13)], [])) zq_296 zo_296 (by with_unfolding_all rfl) ?_
    refine zv_pick (lv' := [(0, .ref p0), (2, .int p1), (3, .int p2), (4, .int p3), (5, .int p4), (6, .int p5), (7, .long p6), (9, .long p7), (11, .int p8), (12, .int p9), (13, .long p14), (15, .long p10), (17, .long p11), (19, .int (p12 + (1 : Int32)))]) [0, 2, 3, 4, 5, 6, 7, 9, 11, 12, 13, 15, 17, 19] rfl rfl ?_
    exact hk90 _ _ _ _ _ _ _ _ _ _ _ _ _ _ _ _ _ hf
  · refine zv_brF (off := 29) (tt := 503) (r := []) zq_296 zo_296 hc rfl rfl rfl ?_
    refine zv_p (k := 1) (f' := (479, [(13, .long p14), (0, .ref p0), (2, .int p1), (3, .int p2), (4, .int p3), (5, .int p4), (6, .int p5), (7, .long p6), (9, .long p7), (11, .int p8), (12, .int p9), (15, .long p10), (17, .long p11), (19, .int p12), (21, .long p13)], [.long p10])) zq_296 zo_296 (by with_unfolding_all rfl) ?_
    refine zv_lng zq_296 zo_296 rfl rfl ?_
    refine zv_p (k := 1) (f' := (483, [(13, .long p14), (0, .ref p0), (2, .int p1), (3, .int p2), (4, .int p3), (5, .int p4), (6, .int p5), (7, .long p6), (9, .long p7), (11, .int p8), (12, .int p9), (15, .long p10), (17, .long p11), (19, .int p12), (21, .long p13)], [.int (lg_cmp p10 (-3000000002 : Int64))])) zq_296 zo_296 (by with_unfolding_all rfl) ?_
    replace hf := zf_ite hf
    obtain ⟨hc, hf⟩ | ⟨hc, hf⟩ := hf
    · refine zv_brT (off := 15) (tt := 498) (r := []) zq_296 zo_296 (zl_eq.mpr hc) rfl rfl rfl ?_
      refine zv_p (k := 5) (f' := (90, [(19, .int (p12 + (1 : Int32))), (15, .long p13), (13, .long p14), (0, .ref p0), (2, .int p1), (3, .int p2), (4, .int p3), (5, .int p4), (6, .int p5), (7, .long p6), (9, .long p7), (11, .int p8), (12, .int p9), (17, .long p11), (21, .long p13)], [])) zq_296 zo_296 (by with_unfolding_all rfl) ?_
      refine zv_pick (lv' := [(0, .ref p0), (2, .int p1), (3, .int p2), (4, .int p3), (5, .int p4), (6, .int p5), (7, .long p6), (9, .long p7), (11, .int p8), (12, .int p9), (13, .long p14), (15, .long p13), (17, .long p11), (19, .int (p12 + (1 : Int32)))]) [0, 2, 3, 4, 5, 6, 7, 9, 11, 12, 13, 15, 17, 19] rfl rfl ?_
      exact hk90 _ _ _ _ _ _ _ _ _ _ _ _ _ _ _ _ _ hf
    · refine zv_brF (off := 15) (tt := 498) (r := []) zq_296 zo_296 (mt zl_eq.mp hc) rfl rfl rfl ?_
      refine zv_p (k := 3) (f' := (492, [(13, .long p14), (0, .ref p0), (2, .int p1), (3, .int p2), (4, .int p3), (5, .int p4), (6, .int p5), (7, .long p6), (9, .long p7), (11, .int p8), (12, .int p9), (15, .long p10), (17, .long p11), (19, .int p12), (21, .long p13)], [.long p10, .long p13, .int p3])) zq_296 zo_296 (by with_unfolding_all rfl) ?_
      replace hf := zf_b2e hf
      obtain ⟨v3, h4, hv, hf⟩ := hf
      refine zv_c zq_296 zo_296 rfl rfl rfl rfl rfl rfl (t_f_ColumnVaultLaw_than _ _ _ _ _ _ hv) ?_
      replace hf := zf_ite hf
      obtain ⟨hc, hf⟩ | ⟨hc, hf⟩ := hf
      · refine zv_brT (off := 8) (tt := 503) (r := []) zq_296 zo_296 hc rfl rfl rfl ?_
        refine zv_p (k := 4) (f' := (90, [(19, .int (p12 + (1 : Int32))), (15, .long p10), (13, .long p14), (0, .ref p0), (2, .int p1), (3, .int p2), (4, .int p3), (5, .int p4), (6, .int p5), (7, .long p6), (9, .long p7), (11, .int p8), (12, .int p9), (17, .long p11), (21, .long p13)], [])) zq_296 zo_296 (by with_unfolding_all rfl) ?_
        refine zv_pick (lv' := [(0, .ref p0), (2, .int p1), (3, .int p2), (4, .int p3), (5, .int p4), (6, .int p5), (7, .long p6), (9, .long p7), (11, .int p8), (12, .int p9), (13, .long p14), (15, .long p10), (17, .long p11), (19, .int (p12 + (1 : Int32)))]) [0, 2, 3, 4, 5, 6, 7, 9, 11, 12, 13, 15, 17, 19] rfl rfl ?_
        exact hk90 _ _ _ _ _ _ _ _ _ _ _ _ _ _ _ _ _ hf
      · refine zv_brF (off := 8) (tt := 503) (r := []) zq_296 zo_296 hc rfl rfl rfl ?_
        refine zv_p (k := 5) (f' := (90, [(19, .int (p12 + (1 : Int32))), (15, .long p13), (13, .long p14), (0, .ref p0), (2, .int p1), (3, .int p2), (4, .int p3), (5, .int p4), (6, .int p5), (7, .long p6), (9, .long p7), (11, .int p8), (12, .int p9), (17, .long p11), (21, .long p13)], [])) zq_296 zo_296 (by with_unfolding_all rfl) ?_
        refine zv_pick (lv' := [(0, .ref p0), (2, .int p1), (3, .int p2), (4, .int p3), (5, .int p4), (6, .int p5), (7, .long p6), (9, .long p7), (11, .int p8), (12, .int p9), (13, .long p14), (15, .long p13), (17, .long p11), (19, .int (p12 + (1 : Int32)))]) [0, 2, 3, 4, 5, 6, 7, 9, 11, 12, 13, 15, 17, 19] rfl rfl ?_
        exact hk90 _ _ _ _ _ _ _ _ _ _ _ _ _ _ _ _ _ hf
set_option maxHeartbeats 1000000 in
def f_ColumnVaultLaw_isTold_420 (k90 : Nat → Int32 → Int32 → Int32 → Int32 → Int32 → Int64 → Int64 → Int32 → Int32 → Int64 → Int64 → Int64 → Int32 → zx_H → Option ((Int32 ⊕ Nat) × zx_H)) (p0 : Nat) (p1 : Int32) (p2 : Int32) (p3 : Int32) (p4 : Int32) (p5 : Int32) (p6 : Int64) (p7 : Int64) (p8 : Int32) (p9 : Int64) (p10 : Int64) (p11 : Int64) (p12 : Int32) (p13 : Int64) (p14 : Int32) (p15 : Int32) (h : zx_H) : Option ((Int32 ⊕ Nat) × zx_H) :=
  zf_b2 (f_ColumnVaultLaw_than p3 p13 p6 h) fun v1 h2 =>
  if 0 < v1 then
    f_ColumnVaultLaw_isTold_463 k90 p0 p1 p2 p3 p4 p5 p6 p7 p8 (p14 + p15) p10 p11 p12 p13 p9 h2
  else
    if p9 = (-3000000002 : Int64) then
      f_ColumnVaultLaw_isTold_463 k90 p0 p1 p2 p3 p4 p5 p6 p7 p8 (p14 + p15) p10 p11 p12 p13 p13 h2
    else
      zf_b2 (f_ColumnVaultLaw_than p3 p13 p9 h2) fun v3 h4 =>
      if v3 ≤ 0 then
        f_ColumnVaultLaw_isTold_463 k90 p0 p1 p2 p3 p4 p5 p6 p7 p8 (p14 + p15) p10 p11 p12 p13 p9 h4
      else
        f_ColumnVaultLaw_isTold_463 k90 p0 p1 p2 p3 p4 p5 p6 p7 p8 (p14 + p15) p10 p11 p12 p13 p13 h4
set_option maxHeartbeats 4000000 in
set_option maxRecDepth 400000 in
theorem t_f_ColumnVaultLaw_isTold_420 {sc : (Nat × (Nat → Int32)) × Bool} {d : Nat} {k90 : Nat → Int32 → Int32 → Int32 → Int32 → Int32 → Int64 → Int64 → Int32 → Int32 → Int64 → Int64 → Int64 → Int32 → zx_H → Option ((Int32 ⊕ Nat) × zx_H)} (hk90 : ∀ (a0 : Nat) (a1 : Int32) (a2 : Int32) (a3 : Int32) (a4 : Int32) (a5 : Int32) (a6 : Int64) (a7 : Int64) (a8 : Int32) (a9 : Int32) (a10 : Int64) (a11 : Int64) (a12 : Int64) (a13 : Int32) (h : zx_H) (r : (Int32 ⊕ Nat)) (h' : zx_H), k90 a0 a1 a2 a3 a4 a5 a6 a7 a8 a9 a10 a11 a12 a13 h = some (r, h') → zx_T sc (d + 125) 296 (90, [(0, .ref a0), (2, .int a1), (3, .int a2), (4, .int a3), (5, .int a4), (6, .int a5), (7, .long a6), (9, .long a7), (11, .int a8), (12, .int a9), (13, .long a10), (15, .long a11), (17, .long a12), (19, .int a13)], []) h (zf_oIx r) h') (p0 : Nat) (p1 : Int32) (p2 : Int32) (p3 : Int32) (p4 : Int32) (p5 : Int32) (p6 : Int64) (p7 : Int64) (p8 : Int32) (p9 : Int64) (p10 : Int64) (p11 : Int64) (p12 : Int32) (p13 : Int64) (p14 : Int32) (p15 : Int32) (h : zx_H) (r : (Int32 ⊕ Nat)) (h' : zx_H) (hf : f_ColumnVaultLaw_isTold_420 k90 p0 p1 p2 p3 p4 p5 p6 p7 p8 p9 p10 p11 p12 p13 p14 p15 h = some (r, h')) : zx_T sc (d + 125) 296 (420, [(0, .ref p0), (2, .int p1), (3, .int p2), (4, .int p3), (5, .int p4), (6, .int p5), (7, .long p6), (9, .long p7), (11, .int p8), (13, .long p9), (15, .long p10), (17, .long p11), (19, .int p12), (21, .long p13)], [.int p15, .int p14]) h (zf_oIx r) h' := by
  unfold f_ColumnVaultLaw_isTold_420 at hf
  refine zv_p (k := 5) (f' := (429, [(12, .int (p14 + p15)), (0, .ref p0), (2, .int p1), (3, .int p2), (4, .int p3), (5, .int p4), (6, .int p5), (7, .long p6), (9, .long p7), (11, .int p8), (13, .long p9), (15, .long p10), (17, .long p11), (19, .int p12), (21, .long p13)], [.long p6, .long p13, .int p3])) zq_296 zo_296 (by with_unfolding_all rfl) ?_
  replace hf := zf_b2e hf
  obtain ⟨v1, h2, hv, hf⟩ := hf
  refine zv_c zq_296 zo_296 rfl rfl rfl rfl rfl rfl (t_f_ColumnVaultLaw_than _ _ _ _ _ _ hv) ?_
  replace hf := zf_ite hf
  obtain ⟨hc, hf⟩ | ⟨hc, hf⟩ := hf
  · refine zv_brT (off := 29) (tt := 461) (r := []) zq_296 zo_296 hc rfl rfl rfl ?_
    refine zv_p (k := 1) (f' := (463, [(12, .int (p14 + p15)), (0, .ref p0), (2, .int p1), (3, .int p2), (4, .int p3), (5, .int p4), (6, .int p5), (7, .long p6), (9, .long p7), (11, .int p8), (13, .long p9), (15, .long p10), (17, .long p11), (19, .int p12), (21, .long p13)], [.long p9])) zq_296 zo_296 (by with_unfolding_all rfl) ?_
    refine zv_pick (lv' := [(0, .ref p0), (2, .int p1), (3, .int p2), (4, .int p3), (5, .int p4), (6, .int p5), (7, .long p6), (9, .long p7), (11, .int p8), (12, .int (p14 + p15)), (15, .long p10), (17, .long p11), (19, .int p12), (21, .long p13)]) [0, 2, 3, 4, 5, 6, 7, 9, 11, 12, 15, 17, 19, 21] rfl rfl ?_
    exact t_f_ColumnVaultLaw_isTold_463 hk90 _ _ _ _ _ _ _ _ _ _ _ _ _ _ _ _ _ _ hf
  · refine zv_brF (off := 29) (tt := 461) (r := []) zq_296 zo_296 hc rfl rfl rfl ?_
    refine zv_p (k := 1) (f' := (437, [(12, .int (p14 + p15)), (0, .ref p0), (2, .int p1), (3, .int p2), (4, .int p3), (5, .int p4), (6, .int p5), (7, .long p6), (9, .long p7), (11, .int p8), (13, .long p9), (15, .long p10), (17, .long p11), (19, .int p12), (21, .long p13)], [.long p9])) zq_296 zo_296 (by with_unfolding_all rfl) ?_
    refine zv_lng zq_296 zo_296 rfl rfl ?_
    refine zv_p (k := 1) (f' := (441, [(12, .int (p14 + p15)), (0, .ref p0), (2, .int p1), (3, .int p2), (4, .int p3), (5, .int p4), (6, .int p5), (7, .long p6), (9, .long p7), (11, .int p8), (13, .long p9), (15, .long p10), (17, .long p11), (19, .int p12), (21, .long p13)], [.int (lg_cmp p9 (-3000000002 : Int64))])) zq_296 zo_296 (by with_unfolding_all rfl) ?_
    replace hf := zf_ite hf
    obtain ⟨hc, hf⟩ | ⟨hc, hf⟩ := hf
    · refine zv_brT (off := 15) (tt := 456) (r := []) zq_296 zo_296 (zl_eq.mpr hc) rfl rfl rfl ?_
      refine zv_p (k := 2) (f' := (463, [(12, .int (p14 + p15)), (0, .ref p0), (2, .int p1), (3, .int p2), (4, .int p3), (5, .int p4), (6, .int p5), (7, .long p6), (9, .long p7), (11, .int p8), (13, .long p9), (15, .long p10), (17, .long p11), (19, .int p12), (21, .long p13)], [.long p13])) zq_296 zo_296 (by with_unfolding_all rfl) ?_
      refine zv_pick (lv' := [(0, .ref p0), (2, .int p1), (3, .int p2), (4, .int p3), (5, .int p4), (6, .int p5), (7, .long p6), (9, .long p7), (11, .int p8), (12, .int (p14 + p15)), (15, .long p10), (17, .long p11), (19, .int p12), (21, .long p13)]) [0, 2, 3, 4, 5, 6, 7, 9, 11, 12, 15, 17, 19, 21] rfl rfl ?_
      exact t_f_ColumnVaultLaw_isTold_463 hk90 _ _ _ _ _ _ _ _ _ _ _ _ _ _ _ _ _ _ hf
    · refine zv_brF (off := 15) (tt := 456) (r := []) zq_296 zo_296 (mt zl_eq.mp hc) rfl rfl rfl ?_
      refine zv_p (k := 3) (f' := (450, [(12, .int (p14 + p15)), (0, .ref p0), (2, .int p1), (3, .int p2), (4, .int p3), (5, .int p4), (6, .int p5), (7, .long p6), (9, .long p7), (11, .int p8), (13, .long p9), (15, .long p10), (17, .long p11), (19, .int p12), (21, .long p13)], [.long p9, .long p13, .int p3])) zq_296 zo_296 (by with_unfolding_all rfl) ?_
      replace hf := zf_b2e hf
      obtain ⟨v3, h4, hv, hf⟩ := hf
      refine zv_c zq_296 zo_296 rfl rfl rfl rfl rfl rfl (t_f_ColumnVaultLaw_than _ _ _ _ _ _ hv) ?_
      replace hf := zf_ite hf
      obtain ⟨hc, hf⟩ | ⟨hc, hf⟩ := hf
      · refine zv_brT (off := 8) (tt := 461) (r := []) zq_296 zo_296 hc rfl rfl rfl ?_
        refine zv_p (k := 1) (f' := (463, [(12, .int (p14 + p15)), (0, .ref p0), (2, .int p1), (3, .int p2), (4, .int p3), (5, .int p4), (6, .int p5), (7, .long p6), (9, .long p7), (11, .int p8), (13, .long p9), (15, .long p10), (17, .long p11), (19, .int p12), (21, .long p13)], [.long p9])) zq_296 zo_296 (by with_unfolding_all rfl) ?_
        refine zv_pick (lv' := [(0, .ref p0), (2, .int p1), (3, .int p2), (4, .int p3), (5, .int p4), (6, .int p5), (7, .long p6), (9, .long p7), (11, .int p8), (12, .int (p14 + p15)), (15, .long p10), (17, .long p11), (19, .int p12), (21, .long p13)]) [0, 2, 3, 4, 5, 6, 7, 9, 11, 12, 15, 17, 19, 21] rfl rfl ?_
        exact t_f_ColumnVaultLaw_isTold_463 hk90 _ _ _ _ _ _ _ _ _ _ _ _ _ _ _ _ _ _ hf
      · refine zv_brF (off := 8) (tt := 461) (r := []) zq_296 zo_296 hc rfl rfl rfl ?_
        refine zv_p (k := 2) (f' := (463, [(12, .int (p14 + p15)), (0, .ref p0), (2, .int p1), (3, .int p2), (4, .int p3), (5, .int p4), (6, .int p5), (7, .long p6), (9, .long p7), (11, .int p8), (13, .long p9), (15, .long p10), (17, .long p11), (19, .int p12), (21, .long p13)], [.long p13])) zq_296 zo_296 (by with_unfolding_all rfl) ?_
        refine zv_pick (lv' := [(0, .ref p0), (2, .int p1), (3, .int p2), (4, .int p3), (5, .int p4), (6, .int p5), (7, .long p6), (9, .long p7), (11, .int p8), (12, .int (p14 + p15)), (15, .long p10), (17, .long p11), (19, .int p12), (21, .long p13)]) [0, 2, 3, 4, 5, 6, 7, 9, 11, 12, 15, 17, 19, 21] rfl rfl ?_
        exact t_f_ColumnVaultLaw_isTold_463 hk90 _ _ _ _ _ _ _ _ _ _ _ _ _ _ _ _ _ _ hf
set_option maxHeartbeats 1000000 in
def f_ColumnVaultLaw_isTold_400 (k90 : Nat → Int32 → Int32 → Int32 → Int32 → Int32 → Int64 → Int64 → Int32 → Int32 → Int64 → Int64 → Int64 → Int32 → zx_H → Option ((Int32 ⊕ Nat) × zx_H)) (p0 : Nat) (p1 : Int32) (p2 : Int32) (p3 : Int32) (p4 : Int32) (p5 : Int32) (p6 : Int64) (p7 : Int64) (p8 : Int32) (p9 : Int64) (p10 : Int64) (p11 : Int64) (p12 : Int32) (p13 : Int32) (p14 : Int64) (p15 : Int32) (p16 : Int32) (h : zx_H) : Option ((Int32 ⊕ Nat) × zx_H) :=
  zf_b (zf_is 12 p0 h) fun _ =>
  zf_b3 (f_ColumnVault_isChosen p0 p1 p13 h) fun v1 h2 =>
  if v1 = 0 then
    f_ColumnVaultLaw_isTold_420 k90 p0 p1 p2 p3 p4 p5 p6 p7 (p15 + p16) p9 p10 p11 p12 p14 p8 (0 : Int32) h2
  else
    f_ColumnVaultLaw_isTold_420 k90 p0 p1 p2 p3 p4 p5 p6 p7 (p15 + p16) p9 p10 p11 p12 p14 p8 (1 : Int32) h2
set_option maxHeartbeats 4000000 in
set_option maxRecDepth 400000 in
theorem t_f_ColumnVaultLaw_isTold_400 {sc : (Nat × (Nat → Int32)) × Bool} {d : Nat} {k90 : Nat → Int32 → Int32 → Int32 → Int32 → Int32 → Int64 → Int64 → Int32 → Int32 → Int64 → Int64 → Int64 → Int32 → zx_H → Option ((Int32 ⊕ Nat) × zx_H)} (hk90 : ∀ (a0 : Nat) (a1 : Int32) (a2 : Int32) (a3 : Int32) (a4 : Int32) (a5 : Int32) (a6 : Int64) (a7 : Int64) (a8 : Int32) (a9 : Int32) (a10 : Int64) (a11 : Int64) (a12 : Int64) (a13 : Int32) (h : zx_H) (r : (Int32 ⊕ Nat)) (h' : zx_H), k90 a0 a1 a2 a3 a4 a5 a6 a7 a8 a9 a10 a11 a12 a13 h = some (r, h') → zx_T sc (d + 125) 296 (90, [(0, .ref a0), (2, .int a1), (3, .int a2), (4, .int a3), (5, .int a4), (6, .int a5), (7, .long a6), (9, .long a7), (11, .int a8), (12, .int a9), (13, .long a10), (15, .long a11), (17, .long a12), (19, .int a13)], []) h (zf_oIx r) h') (p0 : Nat) (p1 : Int32) (p2 : Int32) (p3 : Int32) (p4 : Int32) (p5 : Int32) (p6 : Int64) (p7 : Int64) (p8 : Int32) (p9 : Int64) (p10 : Int64) (p11 : Int64) (p12 : Int32) (p13 : Int32) (p14 : Int64) (p15 : Int32) (p16 : Int32) (h : zx_H) (r : (Int32 ⊕ Nat)) (h' : zx_H) (hf : f_ColumnVaultLaw_isTold_400 k90 p0 p1 p2 p3 p4 p5 p6 p7 p8 p9 p10 p11 p12 p13 p14 p15 p16 h = some (r, h')) : zx_T sc (d + 125) 296 (400, [(0, .ref p0), (2, .int p1), (3, .int p2), (4, .int p3), (5, .int p4), (6, .int p5), (7, .long p6), (9, .long p7), (12, .int p8), (13, .long p9), (15, .long p10), (17, .long p11), (19, .int p12), (20, .int p13), (21, .long p14)], [.int p16, .int p15]) h (zf_oIx r) h' := by
  unfold f_ColumnVaultLaw_isTold_400 at hf
  refine zv_p (k := 6) (f' := (409, [(11, .int (p15 + p16)), (0, .ref p0), (2, .int p1), (3, .int p2), (4, .int p3), (5, .int p4), (6, .int p5), (7, .long p6), (9, .long p7), (12, .int p8), (13, .long p9), (15, .long p10), (17, .long p11), (19, .int p12), (20, .int p13), (21, .long p14)], [.int p13, .int p1, .ref p0, .int p8])) zq_296 zo_296 (by with_unfolding_all rfl) ?_
  replace hf := zf_be hf
  obtain ⟨_, ho, hf⟩ := hf
  replace hf := zf_b3e hf
  obtain ⟨v1, h2, hv, hf⟩ | ⟨E3, h2, hv, hf⟩ := hf
  rotate_left
  · cases hf; exact zv_cx zq_296 zo_296 rfl rfl rfl rfl rfl (zv_cv rfl rfl rfl (zf_ise ho) rfl) (t_f_ColumnVault_isChosen _ _ _ _ _ _ hv) rfl
  refine zv_c zq_296 zo_296 rfl rfl rfl rfl rfl (zv_cv rfl rfl rfl (zf_ise ho) rfl) (t_f_ColumnVault_isChosen _ _ _ _ _ _ hv) ?_
  replace hf := zf_ite hf
  obtain ⟨hc, hf⟩ | ⟨hc, hf⟩ := hf
  · refine zv_brT (off := 7) (tt := 419) (r := [.int p8]) zq_296 zo_296 hc rfl rfl rfl ?_
    refine zv_p (k := 1) (f' := (420, [(11, .int (p15 + p16)), (0, .ref p0), (2, .int p1), (3, .int p2), (4, .int p3), (5, .int p4), (6, .int p5), (7, .long p6), (9, .long p7), (12, .int p8), (13, .long p9), (15, .long p10), (17, .long p11), (19, .int p12), (20, .int p13), (21, .long p14)], [.int (0 : Int32), .int p8])) zq_296 zo_296 (by with_unfolding_all rfl) ?_
    refine zv_pick (lv' := [(0, .ref p0), (2, .int p1), (3, .int p2), (4, .int p3), (5, .int p4), (6, .int p5), (7, .long p6), (9, .long p7), (11, .int (p15 + p16)), (13, .long p9), (15, .long p10), (17, .long p11), (19, .int p12), (21, .long p14)]) [0, 2, 3, 4, 5, 6, 7, 9, 11, 13, 15, 17, 19, 21] rfl rfl ?_
    exact t_f_ColumnVaultLaw_isTold_420 hk90 _ _ _ _ _ _ _ _ _ _ _ _ _ _ _ _ _ _ _ hf
  · refine zv_brF (off := 7) (tt := 419) (r := [.int p8]) zq_296 zo_296 hc rfl rfl rfl ?_
    refine zv_p (k := 2) (f' := (420, [(11, .int (p15 + p16)), (0, .ref p0), (2, .int p1), (3, .int p2), (4, .int p3), (5, .int p4), (6, .int p5), (7, .long p6), (9, .long p7), (12, .int p8), (13, .long p9), (15, .long p10), (17, .long p11), (19, .int p12), (20, .int p13), (21, .long p14)], [.int (1 : Int32), .int p8])) zq_296 zo_296 (by with_unfolding_all rfl) ?_
    refine zv_pick (lv' := [(0, .ref p0), (2, .int p1), (3, .int p2), (4, .int p3), (5, .int p4), (6, .int p5), (7, .long p6), (9, .long p7), (11, .int (p15 + p16)), (13, .long p9), (15, .long p10), (17, .long p11), (19, .int p12), (21, .long p14)]) [0, 2, 3, 4, 5, 6, 7, 9, 11, 13, 15, 17, 19, 21] rfl rfl ?_
    exact t_f_ColumnVaultLaw_isTold_420 hk90 _ _ _ _ _ _ _ _ _ _ _ _ _ _ _ _ _ _ _ hf
set_option maxHeartbeats 1000000 in
def f_ColumnVaultLaw_isTold_357 (k90 : Nat → Int32 → Int32 → Int32 → Int32 → Int32 → Int64 → Int64 → Int32 → Int32 → Int64 → Int64 → Int64 → Int32 → zx_H → Option ((Int32 ⊕ Nat) × zx_H)) (p0 : Nat) (p1 : Int32) (p2 : Int32) (p3 : Int32) (p4 : Int32) (p5 : Int32) (p6 : Int64) (p7 : Int64) (p8 : Int32) (p9 : Int32) (p10 : Int64) (p11 : Int64) (p12 : Int64) (p13 : Int32) (p14 : Int32) (p15 : Int64) (h : zx_H) : Option ((Int32 ⊕ Nat) × zx_H) :=
  if ¬ p15 = (-9000000000 : Int64) then
    zf_b2 (f_ColumnVaultLaw_than p3 p15 p6 h) fun v1 h2 =>
    if v1 < 0 then
      f_ColumnVaultLaw_isTold_400 k90 p0 p1 p2 p3 p4 p5 p6 p7 p9 p10 p11 p12 p13 p14 p15 p8 (0 : Int32) h2
    else
      zf_b2 (f_ColumnVaultLaw_than p3 p15 p7 h2) fun v3 h4 =>
      if 0 < v3 then
        f_ColumnVaultLaw_isTold_400 k90 p0 p1 p2 p3 p4 p5 p6 p7 p9 p10 p11 p12 p13 p14 p15 p8 (0 : Int32) h4
      else
        f_ColumnVaultLaw_isTold_400 k90 p0 p1 p2 p3 p4 p5 p6 p7 p9 p10 p11 p12 p13 p14 p15 p8 (1 : Int32) h4
  else
    k90 p0 p1 p2 p3 p4 p5 p6 p7 p8 p9 p10 p11 p12 (p13 + (1 : Int32)) h
set_option maxHeartbeats 4000000 in
set_option maxRecDepth 400000 in
theorem t_f_ColumnVaultLaw_isTold_357 {sc : (Nat × (Nat → Int32)) × Bool} {d : Nat} {k90 : Nat → Int32 → Int32 → Int32 → Int32 → Int32 → Int64 → Int64 → Int32 → Int32 → Int64 → Int64 → Int64 → Int32 → zx_H → Option ((Int32 ⊕ Nat) × zx_H)} (hk90 : ∀ (a0 : Nat) (a1 : Int32) (a2 : Int32) (a3 : Int32) (a4 : Int32) (a5 : Int32) (a6 : Int64) (a7 : Int64) (a8 : Int32) (a9 : Int32) (a10 : Int64) (a11 : Int64) (a12 : Int64) (a13 : Int32) (h : zx_H) (r : (Int32 ⊕ Nat)) (h' : zx_H), k90 a0 a1 a2 a3 a4 a5 a6 a7 a8 a9 a10 a11 a12 a13 h = some (r, h') → zx_T sc (d + 125) 296 (90, [(0, .ref a0), (2, .int a1), (3, .int a2), (4, .int a3), (5, .int a4), (6, .int a5), (7, .long a6), (9, .long a7), (11, .int a8), (12, .int a9), (13, .long a10), (15, .long a11), (17, .long a12), (19, .int a13)], []) h (zf_oIx r) h') (p0 : Nat) (p1 : Int32) (p2 : Int32) (p3 : Int32) (p4 : Int32) (p5 : Int32) (p6 : Int64) (p7 : Int64) (p8 : Int32) (p9 : Int32) (p10 : Int64) (p11 : Int64) (p12 : Int64) (p13 : Int32) (p14 : Int32) (p15 : Int64) (h : zx_H) (r : (Int32 ⊕ Nat)) (h' : zx_H) (hf : f_ColumnVaultLaw_isTold_357 k90 p0 p1 p2 p3 p4 p5 p6 p7 p8 p9 p10 p11 p12 p13 p14 p15 h = some (r, h')) : zx_T sc (d + 125) 296 (357, [(0, .ref p0), (2, .int p1), (3, .int p2), (4, .int p3), (5, .int p4), (6, .int p5), (7, .long p6), (9, .long p7), (11, .int p8), (12, .int p9), (13, .long p10), (15, .long p11), (17, .long p12), (19, .int p13), (20, .int p14), (21, .long p15)], []) h (zf_oIx r) h' := by
  unfold f_ColumnVaultLaw_isTold_357 at hf
  refine zv_p (k := 1) (f' := (359, [(0, .ref p0), (2, .int p1), (3, .int p2), (4, .int p3), (5, .int p4), (6, .int p5), (7, .long p6), (9, .long p7), (11, .int p8), (12, .int p9), (13, .long p10), (15, .long p11), (17, .long p12), (19, .int p13), (20, .int p14), (21, .long p15)], [.long p15])) zq_296 zo_296 (by with_unfolding_all rfl) ?_
  refine zv_lng zq_296 zo_296 rfl rfl ?_
  refine zv_p (k := 1) (f' := (363, [(0, .ref p0), (2, .int p1), (3, .int p2), (4, .int p3), (5, .int p4), (6, .int p5), (7, .long p6), (9, .long p7), (11, .int p8), (12, .int p9), (13, .long p10), (15, .long p11), (17, .long p12), (19, .int p13), (20, .int p14), (21, .long p15)], [.int (lg_cmp p15 (-9000000000 : Int64))])) zq_296 zo_296 (by with_unfolding_all rfl) ?_
  replace hf := zf_ite hf
  obtain ⟨hc, hf⟩ | ⟨hc, hf⟩ := hf
  · refine zv_brT (off := 6) (tt := 369) (r := []) zq_296 zo_296 (zl_ne.mpr hc) rfl rfl rfl ?_
    refine zv_p (k := 4) (f' := (377, [(0, .ref p0), (2, .int p1), (3, .int p2), (4, .int p3), (5, .int p4), (6, .int p5), (7, .long p6), (9, .long p7), (11, .int p8), (12, .int p9), (13, .long p10), (15, .long p11), (17, .long p12), (19, .int p13), (20, .int p14), (21, .long p15)], [.long p6, .long p15, .int p3, .int p8])) zq_296 zo_296 (by with_unfolding_all rfl) ?_
    replace hf := zf_b2e hf
    obtain ⟨v1, h2, hv, hf⟩ := hf
    refine zv_c zq_296 zo_296 rfl rfl rfl rfl rfl rfl (t_f_ColumnVaultLaw_than _ _ _ _ _ _ hv) ?_
    replace hf := zf_ite hf
    obtain ⟨hc, hf⟩ | ⟨hc, hf⟩ := hf
    · refine zv_brT (off := 19) (tt := 399) (r := [.int p8]) zq_296 zo_296 hc rfl rfl rfl ?_
      refine zv_p (k := 1) (f' := (400, [(0, .ref p0), (2, .int p1), (3, .int p2), (4, .int p3), (5, .int p4), (6, .int p5), (7, .long p6), (9, .long p7), (11, .int p8), (12, .int p9), (13, .long p10), (15, .long p11), (17, .long p12), (19, .int p13), (20, .int p14), (21, .long p15)], [.int (0 : Int32), .int p8])) zq_296 zo_296 (by with_unfolding_all rfl) ?_
      refine zv_pick (lv' := [(0, .ref p0), (2, .int p1), (3, .int p2), (4, .int p3), (5, .int p4), (6, .int p5), (7, .long p6), (9, .long p7), (12, .int p9), (13, .long p10), (15, .long p11), (17, .long p12), (19, .int p13), (20, .int p14), (21, .long p15)]) [0, 2, 3, 4, 5, 6, 7, 9, 12, 13, 15, 17, 19, 20, 21] rfl rfl ?_
      exact t_f_ColumnVaultLaw_isTold_400 hk90 _ _ _ _ _ _ _ _ _ _ _ _ _ _ _ _ _ _ _ _ hf
    · refine zv_brF (off := 19) (tt := 399) (r := [.int p8]) zq_296 zo_296 hc rfl rfl rfl ?_
      refine zv_p (k := 3) (f' := (389, [(0, .ref p0), (2, .int p1), (3, .int p2), (4, .int p3), (5, .int p4), (6, .int p5), (7, .long p6), (9, .long p7), (11, .int p8), (12, .int p9), (13, .long p10), (15, .long p11), (17, .long p12), (19, .int p13), (20, .int p14), (21, .long p15)], [.long p7, .long p15, .int p3, .int p8])) zq_296 zo_296 (by with_unfolding_all rfl) ?_
      replace hf := zf_b2e hf
      obtain ⟨v3, h4, hv, hf⟩ := hf
      refine zv_c zq_296 zo_296 rfl rfl rfl rfl rfl rfl (t_f_ColumnVaultLaw_than _ _ _ _ _ _ hv) ?_
      replace hf := zf_ite hf
      obtain ⟨hc, hf⟩ | ⟨hc, hf⟩ := hf
      · refine zv_brT (off := 7) (tt := 399) (r := [.int p8]) zq_296 zo_296 hc rfl rfl rfl ?_
        refine zv_p (k := 1) (f' := (400, [(0, .ref p0), (2, .int p1), (3, .int p2), (4, .int p3), (5, .int p4), (6, .int p5), (7, .long p6), (9, .long p7), (11, .int p8), (12, .int p9), (13, .long p10), (15, .long p11), (17, .long p12), (19, .int p13), (20, .int p14), (21, .long p15)], [.int (0 : Int32), .int p8])) zq_296 zo_296 (by with_unfolding_all rfl) ?_
        refine zv_pick (lv' := [(0, .ref p0), (2, .int p1), (3, .int p2), (4, .int p3), (5, .int p4), (6, .int p5), (7, .long p6), (9, .long p7), (12, .int p9), (13, .long p10), (15, .long p11), (17, .long p12), (19, .int p13), (20, .int p14), (21, .long p15)]) [0, 2, 3, 4, 5, 6, 7, 9, 12, 13, 15, 17, 19, 20, 21] rfl rfl ?_
        exact t_f_ColumnVaultLaw_isTold_400 hk90 _ _ _ _ _ _ _ _ _ _ _ _ _ _ _ _ _ _ _ _ hf
      · refine zv_brF (off := 7) (tt := 399) (r := [.int p8]) zq_296 zo_296 hc rfl rfl rfl ?_
        refine zv_p (k := 2) (f' := (400, [(0, .ref p0), (2, .int p1), (3, .int p2), (4, .int p3), (5, .int p4), (6, .int p5), (7, .long p6), (9, .long p7), (11, .int p8), (12, .int p9), (13, .long p10), (15, .long p11), (17, .long p12), (19, .int p13), (20, .int p14), (21, .long p15)], [.int (1 : Int32), .int p8])) zq_296 zo_296 (by with_unfolding_all rfl) ?_
        refine zv_pick (lv' := [(0, .ref p0), (2, .int p1), (3, .int p2), (4, .int p3), (5, .int p4), (6, .int p5), (7, .long p6), (9, .long p7), (12, .int p9), (13, .long p10), (15, .long p11), (17, .long p12), (19, .int p13), (20, .int p14), (21, .long p15)]) [0, 2, 3, 4, 5, 6, 7, 9, 12, 13, 15, 17, 19, 20, 21] rfl rfl ?_
        exact t_f_ColumnVaultLaw_isTold_400 hk90 _ _ _ _ _ _ _ _ _ _ _ _ _ _ _ _ _ _ _ _ hf
  · refine zv_brF (off := 6) (tt := 369) (r := []) zq_296 zo_296 (mt zl_ne.mp hc) rfl rfl rfl ?_
    refine zv_p (k := 3) (f' := (90, [(19, .int (p13 + (1 : Int32))), (0, .ref p0), (2, .int p1), (3, .int p2), (4, .int p3), (5, .int p4), (6, .int p5), (7, .long p6), (9, .long p7), (11, .int p8), (12, .int p9), (13, .long p10), (15, .long p11), (17, .long p12), (20, .int p14), (21, .long p15)], [])) zq_296 zo_296 (by with_unfolding_all rfl) ?_
    refine zv_pick (lv' := [(0, .ref p0), (2, .int p1), (3, .int p2), (4, .int p3), (5, .int p4), (6, .int p5), (7, .long p6), (9, .long p7), (11, .int p8), (12, .int p9), (13, .long p10), (15, .long p11), (17, .long p12), (19, .int (p13 + (1 : Int32)))]) [0, 2, 3, 4, 5, 6, 7, 9, 11, 12, 13, 15, 17, 19] rfl rfl ?_
    exact hk90 _ _ _ _ _ _ _ _ _ _ _ _ _ _ _ _ _ hf
set_option maxHeartbeats 1000000 in
def f_ColumnVaultLaw_isTold_338 (k90 : Nat → Int32 → Int32 → Int32 → Int32 → Int32 → Int64 → Int64 → Int32 → Int32 → Int64 → Int64 → Int64 → Int32 → zx_H → Option ((Int32 ⊕ Nat) × zx_H)) (p0 : Nat) (p1 : Int32) (p2 : Int32) (p3 : Int32) (p4 : Int32) (p5 : Int32) (p6 : Int64) (p7 : Int64) (p8 : Int32) (p9 : Int32) (p10 : Int64) (p11 : Int64) (p12 : Int32) (p13 : Int32) (p14 : Int64) (p15 : Int64) (p16 : Int64) (h : zx_H) : Option ((Int32 ⊕ Nat) × zx_H) :=
  zf_b (zf_is 12 p0 h) fun _ =>
  zf_b3 (f_ColumnVault_running p0 p1 p2 p12 h) fun v1 h2 =>
  if v1 = (p15 + p16) then
    f_ColumnVaultLaw_isTold_357 k90 p0 p1 p2 p3 p4 p5 p6 p7 p8 p9 p10 p11 (p15 + p16) p12 p13 p14 h2
  else
    some (.inl (0 : Int32), h2)
set_option maxHeartbeats 4000000 in
set_option maxRecDepth 400000 in
theorem t_f_ColumnVaultLaw_isTold_338 {sc : (Nat × (Nat → Int32)) × Bool} {d : Nat} {k90 : Nat → Int32 → Int32 → Int32 → Int32 → Int32 → Int64 → Int64 → Int32 → Int32 → Int64 → Int64 → Int64 → Int32 → zx_H → Option ((Int32 ⊕ Nat) × zx_H)} (hk90 : ∀ (a0 : Nat) (a1 : Int32) (a2 : Int32) (a3 : Int32) (a4 : Int32) (a5 : Int32) (a6 : Int64) (a7 : Int64) (a8 : Int32) (a9 : Int32) (a10 : Int64) (a11 : Int64) (a12 : Int64) (a13 : Int32) (h : zx_H) (r : (Int32 ⊕ Nat)) (h' : zx_H), k90 a0 a1 a2 a3 a4 a5 a6 a7 a8 a9 a10 a11 a12 a13 h = some (r, h') → zx_T sc (d + 125) 296 (90, [(0, .ref a0), (2, .int a1), (3, .int a2), (4, .int a3), (5, .int a4), (6, .int a5), (7, .long a6), (9, .long a7), (11, .int a8), (12, .int a9), (13, .long a10), (15, .long a11), (17, .long a12), (19, .int a13)], []) h (zf_oIx r) h') (p0 : Nat) (p1 : Int32) (p2 : Int32) (p3 : Int32) (p4 : Int32) (p5 : Int32) (p6 : Int64) (p7 : Int64) (p8 : Int32) (p9 : Int32) (p10 : Int64) (p11 : Int64) (p12 : Int32) (p13 : Int32) (p14 : Int64) (p15 : Int64) (p16 : Int64) (h : zx_H) (r : (Int32 ⊕ Nat)) (h' : zx_H) (hf : f_ColumnVaultLaw_isTold_338 k90 p0 p1 p2 p3 p4 p5 p6 p7 p8 p9 p10 p11 p12 p13 p14 p15 p16 h = some (r, h')) : zx_T sc (d + 125) 296 (338, [(0, .ref p0), (2, .int p1), (3, .int p2), (4, .int p3), (5, .int p4), (6, .int p5), (7, .long p6), (9, .long p7), (11, .int p8), (12, .int p9), (13, .long p10), (15, .long p11), (19, .int p12), (20, .int p13), (21, .long p14)], [.long p16, .long p15]) h (zf_oIx r) h' := by
  unfold f_ColumnVaultLaw_isTold_338 at hf
  refine zv_p (k := 6) (f' := (346, [(17, .long (p15 + p16)), (0, .ref p0), (2, .int p1), (3, .int p2), (4, .int p3), (5, .int p4), (6, .int p5), (7, .long p6), (9, .long p7), (11, .int p8), (12, .int p9), (13, .long p10), (15, .long p11), (19, .int p12), (20, .int p13), (21, .long p14)], [.int p12, .int p2, .int p1, .ref p0])) zq_296 zo_296 (by with_unfolding_all rfl) ?_
  replace hf := zf_be hf
  obtain ⟨_, ho, hf⟩ := hf
  replace hf := zf_b3e hf
  obtain ⟨v1, h2, hv, hf⟩ | ⟨E3, h2, hv, hf⟩ := hf
  rotate_left
  · cases hf; exact zv_cx zq_296 zo_296 rfl rfl rfl rfl rfl (zv_cv rfl rfl rfl (zf_ise ho) rfl) (t_f_ColumnVault_running _ _ _ _ _ _ _ hv) rfl
  refine zv_c zq_296 zo_296 rfl rfl rfl rfl rfl (zv_cv rfl rfl rfl (zf_ise ho) rfl) (t_f_ColumnVault_running _ _ _ _ _ _ _ hv) ?_
  refine zv_p (k := 2) (f' := (352, [(17, .long (p15 + p16)), (0, .ref p0), (2, .int p1), (3, .int p2), (4, .int p3), (5, .int p4), (6, .int p5), (7, .long p6), (9, .long p7), (11, .int p8), (12, .int p9), (13, .long p10), (15, .long p11), (19, .int p12), (20, .int p13), (21, .long p14)], [.int (lg_cmp v1 (p15 + p16))])) zq_296 zo_296 (by with_unfolding_all rfl) ?_
  replace hf := zf_ite hf
  obtain ⟨hc, hf⟩ | ⟨hc, hf⟩ := hf
  · refine zv_brT (off := 5) (tt := 357) (r := []) zq_296 zo_296 (zl_eq.mpr hc) rfl rfl rfl ?_
    refine zv_pick (lv' := [(0, .ref p0), (2, .int p1), (3, .int p2), (4, .int p3), (5, .int p4), (6, .int p5), (7, .long p6), (9, .long p7), (11, .int p8), (12, .int p9), (13, .long p10), (15, .long p11), (17, .long (p15 + p16)), (19, .int p12), (20, .int p13), (21, .long p14)]) [0, 2, 3, 4, 5, 6, 7, 9, 11, 12, 13, 15, 17, 19, 20, 21] rfl rfl ?_
    exact t_f_ColumnVaultLaw_isTold_357 hk90 _ _ _ _ _ _ _ _ _ _ _ _ _ _ _ _ _ _ _ hf
  · refine zv_brF (off := 5) (tt := 357) (r := []) zq_296 zo_296 (mt zl_eq.mp hc) rfl rfl rfl ?_
    refine zv_p (k := 1) (f' := (356, [(17, .long (p15 + p16)), (0, .ref p0), (2, .int p1), (3, .int p2), (4, .int p3), (5, .int p4), (6, .int p5), (7, .long p6), (9, .long p7), (11, .int p8), (12, .int p9), (13, .long p10), (15, .long p11), (19, .int p12), (20, .int p13), (21, .long p14)], [.int (0 : Int32)])) zq_296 zo_296 (by with_unfolding_all rfl) ?_
    cases hf
    exact zv_rn zq_296 zo_296 rfl rfl
