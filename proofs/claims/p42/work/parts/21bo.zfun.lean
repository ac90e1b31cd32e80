set_option maxHeartbeats 1000000 in
def f_ColumnVaultLaw_filter_124 (r_261 : Nat → Nat → Int32 → Nat → Int32 → Nat → zx_H → Option ((Nat ⊕ Nat) × zx_H)) (k24 : Nat → Nat → Int32 → Nat → Int32 → Nat → Nat → Int32 → Int32 → zx_H → Option ((Nat ⊕ Nat) × zx_H)) : Nat → Nat → Nat → Int32 → Nat → Int32 → Nat → Nat → Int32 → Int32 → Nat → Nat → Nat → Int32 → zx_H → Option ((Nat ⊕ Nat) × zx_H)
  | 0, _, _, _, _, _, _, _, _, _, _, _, _, _, _ => none
  | n + 1, p0, p1, p2, p3, p4, p5, p6, p7, p8, p9, p10, p11, p12, h =>
    zf_b (zf_len p6 h) fun v1 =>
    if v1 ≤ p12 then
      f_ColumnVaultLaw_filter_171 r_261 k24 zF p0 p1 p2 p3 p4 p5 p6 p7 p8 p11 (0 : Int32) h
    else
      zf_b (zf_ldB p9 p12 h) fun v2 =>
      if v2 = 0 then
        zf_b (zf_stB p11 p12 (0 : Int32) h) fun h3 =>
        (f_ColumnVaultLaw_filter_124 r_261 k24 n) p0 p1 p2 p3 p4 p5 p6 p7 p8 p9 p10 p11 (p12 + (1 : Int32)) h3
      else
        zf_b (zf_ldB p10 p12 h) fun v4 =>
        if v4 = 0 then
          zf_b (zf_stB p11 p12 (0 : Int32) h) fun h5 =>
          (f_ColumnVaultLaw_filter_124 r_261 k24 n) p0 p1 p2 p3 p4 p5 p6 p7 p8 p9 p10 p11 (p12 + (1 : Int32)) h5
        else
          zf_b (zf_stB p11 p12 (1 : Int32) h) fun h6 =>
          (f_ColumnVaultLaw_filter_124 r_261 k24 n) p0 p1 p2 p3 p4 p5 p6 p7 p8 p9 p10 p11 (p12 + (1 : Int32)) h6
set_option maxHeartbeats 4000000 in
set_option maxRecDepth 400000 in
theorem t_f_ColumnVaultLaw_filter_124 {sc : (Nat × (Nat → Int32)) × Bool} {d : Nat} {r_261 : Nat → Nat → Int32 → Nat → Int32 → Nat → zx_H → Option ((Nat ⊕ Nat) × zx_H)} (hr : ∀ (a0 : Nat) (a1 : Nat) (a2 : Int32) (a3 : Nat) (a4 : Int32) (a5 : Nat) (h : zx_H) (r : (Nat ⊕ Nat)) (h' : zx_H), r_261 a0 a1 a2 a3 a4 a5 h = some (r, h') → zx_T sc d 261 (0, [(0, .ref a0), (1, .ref a1), (2, .int a2), (3, .ref a3), (4, .int a4), (5, .ref a5)], []) h (zf_oAx r) h') {k24 : Nat → Nat → Int32 → Nat → Int32 → Nat → Nat → Int32 → Int32 → zx_H → Option ((Nat ⊕ Nat) × zx_H)} (hk24 : ∀ (a0 : Nat) (a1 : Nat) (a2 : Int32) (a3 : Nat) (a4 : Int32) (a5 : Nat) (a6 : Nat) (a7 : Int32) (a8 : Int32) (h : zx_H) (r : (Nat ⊕ Nat)) (h' : zx_H), k24 a0 a1 a2 a3 a4 a5 a6 a7 a8 h = some (r, h') → zx_T sc (d + 6) 260 (24, [(0, .ref a0), (1, .ref a1), (2, .int a2), (3, .ref a3), (4, .int a4), (5, .ref a5), (6, .ref a6), (7, .int a7), (8, .int a8)], []) h (zf_oAx r) h') : ∀ (n : Nat) (p0 : Nat) (p1 : Nat) (p2 : Int32) (p3 : Nat) (p4 : Int32) (p5 : Nat) (p6 : Nat) (p7 : Int32) (p8 : Int32) (p9 : Nat) (p10 : Nat) (p11 : Nat) (p12 : Int32) (h : zx_H) (r : (Nat ⊕ Nat)) (h' : zx_H), f_ColumnVaultLaw_filter_124 r_261 k24 n p0 p1 p2 p3 p4 p5 p6 p7 p8 p9 p10 p11 p12 h = some (r, h') → zx_T sc (d + 6) 260 (124, [(0, .ref p0), (1, .ref p1), (2, .int p2), (3, .ref p3), (4, .int p4), (5, .ref p5), (6, .ref p6), (7, .int p7), (8, .int p8), (9, .ref p9), (10, .ref p10), (11, .ref p11), (12, .int p12)], []) h (zf_oAx r) h' := by
  intro n
  induction n with
  | zero => intro p0 p1 p2 p3 p4 p5 p6 p7 p8 p9 p10 p11 p12 h r h' hf; cases hf
  | succ n ih =>
    intro p0 p1 p2 p3 p4 p5 p6 p7 p8 p9 p10 p11 p12 h r h' hf
    unfold f_ColumnVaultLaw_filter_124 at hf
    refine zv_p (k := 2) (f' := (128, [(0, .ref p0), (1, .ref p1), (2, .int p2), (3, .ref p3), (4, .int p4), (5, .ref p5), (6, .ref p6), (7, .int p7), (8, .int p8), (9, .ref p9), (10, .ref p10), (11, .ref p11), (12, .int p12)], [.ref p6, .int p12])) zq_260 zo_260 (by with_unfolding_all rfl) ?_
    replace hf := zf_be hf
    obtain ⟨v1, hv, hf⟩ := hf
    refine zv_len zq_260 zo_260 rfl hv ?_
    replace hf := zf_ite hf
    obtain ⟨hc, hf⟩ | ⟨hc, hf⟩ := hf
    · refine zv_brT (off := 35) (tt := 164) (r := []) zq_260 zo_260 hc rfl rfl rfl ?_
      refine zv_p (k := 4) (f' := (171, [(10, .int (0 : Int32)), (9, .ref p11), (0, .ref p0), (1, .ref p1), (2, .int p2), (3, .ref p3), (4, .int p4), (5, .ref p5), (6, .ref p6), (7, .int p7), (8, .int p8), (11, .ref p11), (12, .int p12)], [])) zq_260 zo_260 (by with_unfolding_all rfl) ?_
      refine zv_pick (lv' := [(0, .ref p0), (1, .ref p1), (2, .int p2), (3, .ref p3), (4, .int p4), (5, .ref p5), (6, .ref p6), (7, .int p7), (8, .int p8), (9, .ref p11), (10, .int (0 : Int32))]) [0, 1, 2, 3, 4, 5, 6, 7, 8, 9, 10] rfl rfl ?_
      exact t_f_ColumnVaultLaw_filter_171 hr hk24 zF _ _ _ _ _ _ _ _ _ _ _ _ _ _ hf
    · refine zv_brF (off := 35) (tt := 164) (r := []) zq_260 zo_260 hc rfl rfl rfl ?_
      refine zv_p (k := 4) (f' := (140, [(0, .ref p0), (1, .ref p1), (2, .int p2), (3, .ref p3), (4, .int p4), (5, .ref p5), (6, .ref p6), (7, .int p7), (8, .int p8), (9, .ref p9), (10, .ref p10), (11, .ref p11), (12, .int p12)], [.int p12, .ref p9, .int p12, .ref p11])) zq_260 zo_260 (by with_unfolding_all rfl) ?_
      replace hf := zf_be hf
      obtain ⟨v2, hv, hf⟩ := hf
      refine zv_ldB zq_260 zo_260 rfl hv ?_
      replace hf := zf_ite hf
      obtain ⟨hc, hf⟩ | ⟨hc, hf⟩ := hf
      · refine zv_brT (off := 15) (tt := 156) (r := [.int p12, .ref p11]) zq_260 zo_260 hc rfl rfl rfl ?_
        refine zv_p (k := 1) (f' := (157, [(0, .ref p0), (1, .ref p1), (2, .int p2), (3, .ref p3), (4, .int p4), (5, .ref p5), (6, .ref p6), (7, .int p7), (8, .int p8), (9, .ref p9), (10, .ref p10), (11, .ref p11), (12, .int p12)], [.int (0 : Int32), .int p12, .ref p11])) zq_260 zo_260 (by with_unfolding_all rfl) ?_
        replace hf := zf_be hf
        obtain ⟨h3, hv, hf⟩ := hf
        refine zv_stB zq_260 zo_260 rfl hv ?_
        refine zv_p (k := 2) (f' := (124, [(12, .int (p12 + (1 : Int32))), (0, .ref p0), (1, .ref p1), (2, .int p2), (3, .ref p3), (4, .int p4), (5, .ref p5), (6, .ref p6), (7, .int p7), (8, .int p8), (9, .ref p9), (10, .ref p10), (11, .ref p11)], [])) zq_260 zo_260 (by with_unfolding_all rfl) ?_
        refine zv_pick (lv' := [(0, .ref p0), (1, .ref p1), (2, .int p2), (3, .ref p3), (4, .int p4), (5, .ref p5), (6, .ref p6), (7, .int p7), (8, .int p8), (9, .ref p9), (10, .ref p10), (11, .ref p11), (12, .int (p12 + (1 : Int32)))]) [0, 1, 2, 3, 4, 5, 6, 7, 8, 9, 10, 11, 12] rfl rfl ?_
        exact ih _ _ _ _ _ _ _ _ _ _ _ _ _ _ _ _ hf
      · refine zv_brF (off := 15) (tt := 156) (r := [.int p12, .ref p11]) zq_260 zo_260 hc rfl rfl rfl ?_
        refine zv_p (k := 2) (f' := (148, [(0, .ref p0), (1, .ref p1), (2, .int p2), (3, .ref p3), (4, .int p4), (5, .ref p5), (6, .ref p6), (7, .int p7), (8, .int p8), (9, .ref p9), (10, .ref p10), (11, .ref p11), (12, .int p12)], [.int p12, .ref p10, .int p12, .ref p11])) zq_260 zo_260 (by with_unfolding_all rfl) ?_
        replace hf := zf_be hf
        obtain ⟨v4, hv, hf⟩ := hf
        refine zv_ldB zq_260 zo_260 rfl hv ?_
        replace hf := zf_ite hf
        obtain ⟨hc, hf⟩ | ⟨hc, hf⟩ := hf
        · refine zv_brT (off := 7) (tt := 156) (r := [.int p12, .ref p11]) zq_260 zo_260 hc rfl rfl rfl ?_
          refine zv_p (k := 1) (f' := (157, [(0, .ref p0), (1, .ref p1), (2, .int p2), (3, .ref p3), (4, .int p4), (5, .ref p5), (6, .ref p6), (7, .int p7), (8, .int p8), (9, .ref p9), (10, .ref p10), (11, .ref p11), (12, .int p12)], [.int (0 : Int32), .int p12, .ref p11])) zq_260 zo_260 (by with_unfolding_all rfl) ?_
          replace hf := zf_be hf
          obtain ⟨h5, hv, hf⟩ := hf
          refine zv_stB zq_260 zo_260 rfl hv ?_
          refine zv_p (k := 2) (f' := (124, [(12, .int (p12 + (1 : Int32))), (0, .ref p0), (1, .ref p1), (2, .int p2), (3, .ref p3), (4, .int p4), (5, .ref p5), (6, .ref p6), (7, .int p7), (8, .int p8), (9, .ref p9), (10, .ref p10), (11, .ref p11)], [])) zq_260 zo_260 (by with_unfolding_all rfl) ?_
          refine zv_pick (lv' := [(0, .ref p0), (1, .ref p1), (2, .int p2), (3, .ref p3), (4, .int p4), (5, .ref p5), (6, .ref p6), (7, .int p7), (8, .int p8), (9, .ref p9), (10, .ref p10), (11, .ref p11), (12, .int (p12 + (1 : Int32)))]) [0, 1, 2, 3, 4, 5, 6, 7, 8, 9, 10, 11, 12] rfl rfl ?_
          exact ih _ _ _ _ _ _ _ _ _ _ _ _ _ _ _ _ hf
        · refine zv_brF (off := 7) (tt := 156) (r := [.int p12, .ref p11]) zq_260 zo_260 hc rfl rfl rfl ?_
          refine zv_p (k := 2) (f' := (157, [(0, .ref p0), (1, .ref p1), (2, .int p2), (3, .ref p3), (4, .int p4), (5, .ref p5), (6, .ref p6), (7, .int p7), (8, .int p8), (9, .ref p9), (10, .ref p10), (11, .ref p11), (12, .int p12)], [.int (1 : Int32), .int p12, .ref p11])) zq_260 zo_260 (by with_unfolding_all rfl) ?_
          replace hf := zf_be hf
          obtain ⟨h6, hv, hf⟩ := hf
          refine zv_stB zq_260 zo_260 rfl hv ?_
          refine zv_p (k := 2) (f' := (124, [(12, .int (p12 + (1 : Int32))), (0, .ref p0), (1, .ref p1), (2, .int p2), (3, .ref p3), (4, .int p4), (5, .ref p5), (6, .ref p6), (7, .int p7), (8, .int p8), (9, .ref p9), (10, .ref p10), (11, .ref p11)], [])) zq_260 zo_260 (by with_unfolding_all rfl) ?_
          refine zv_pick (lv' := [(0, .ref p0), (1, .ref p1), (2, .int p2), (3, .ref p3), (4, .int p4), (5, .ref p5), (6, .ref p6), (7, .int p7), (8, .int p8), (9, .ref p9), (10, .ref p10), (11, .ref p11), (12, .int (p12 + (1 : Int32)))]) [0, 1, 2, 3, 4, 5, 6, 7, 8, 9, 10, 11, 12] rfl rfl ?_
          exact ih _ _ _ _ _ _ _ _ _ _ _ _ _ _ _ _ hf
set_option maxHeartbeats 1000000 in
def f_ColumnVaultLaw_filter_97 (r_261 : Nat → Nat → Int32 → Nat → Int32 → Nat → zx_H → Option ((Nat ⊕ Nat) × zx_H)) (k24 : Nat → Nat → Int32 → Nat → Int32 → Nat → Nat → Int32 → Int32 → zx_H → Option ((Nat ⊕ Nat) × zx_H)) (p0 : Nat) (p1 : Nat) (p2 : Int32) (p3 : Nat) (p4 : Int32) (p5 : Nat) (p6 : Nat) (p7 : Int32) (p8 : Int32) (p9 : Nat) (p10 : Nat) (p11 : Nat) (h : zx_H) : Option ((Nat ⊕ Nat) × zx_H) :=
  zf_b (zf_is 1 p10 h) fun _ =>
  zf_b2 (f_StringBuilder_appendq3 p10 p11 h) fun v1 h2 =>
  zf_b3 (r_261 p0 p1 p2 p3 p4 p5 h2) fun v3 h4 =>
  zf_b (zf_len p6 h4) fun v6 =>
  zf_b2 (zf_newa .boolean 5 v6 h4) fun q7 h8 =>
  f_ColumnVaultLaw_filter_124 r_261 k24 zF p0 p1 p2 p3 p4 p5 p6 p7 p8 p9 v3 q7 (0 : Int32) h8
set_option maxHeartbeats 4000000 in
set_option maxRecDepth 400000 in
theorem t_f_ColumnVaultLaw_filter_97 {sc : (Nat × (Nat → Int32)) × Bool} {d : Nat} {r_261 : Nat → Nat → Int32 → Nat → Int32 → Nat → zx_H → Option ((Nat ⊕ Nat) × zx_H)} (hr : ∀ (a0 : Nat) (a1 : Nat) (a2 : Int32) (a3 : Nat) (a4 : Int32) (a5 : Nat) (h : zx_H) (r : (Nat ⊕ Nat)) (h' : zx_H), r_261 a0 a1 a2 a3 a4 a5 h = some (r, h') → zx_T sc d 261 (0, [(0, .ref a0), (1, .ref a1), (2, .int a2), (3, .ref a3), (4, .int a4), (5, .ref a5)], []) h (zf_oAx r) h') {k24 : Nat → Nat → Int32 → Nat → Int32 → Nat → Nat → Int32 → Int32 → zx_H → Option ((Nat ⊕ Nat) × zx_H)} (hk24 : ∀ (a0 : Nat) (a1 : Nat) (a2 : Int32) (a3 : Nat) (a4 : Int32) (a5 : Nat) (a6 : Nat) (a7 : Int32) (a8 : Int32) (h : zx_H) (r : (Nat ⊕ Nat)) (h' : zx_H), k24 a0 a1 a2 a3 a4 a5 a6 a7 a8 h = some (r, h') → zx_T sc (d + 6) 260 (24, [(0, .ref a0), (1, .ref a1), (2, .int a2), (3, .ref a3), (4, .int a4), (5, .ref a5), (6, .ref a6), (7, .int a7), (8, .int a8)], []) h (zf_oAx r) h') (p0 : Nat) (p1 : Nat) (p2 : Int32) (p3 : Nat) (p4 : Int32) (p5 : Nat) (p6 : Nat) (p7 : Int32) (p8 : Int32) (p9 : Nat) (p10 : Nat) (p11 : Nat) (h : zx_H) (r : (Nat ⊕ Nat)) (h' : zx_H) (hf : f_ColumnVaultLaw_filter_97 r_261 k24 p0 p1 p2 p3 p4 p5 p6 p7 p8 p9 p10 p11 h = some (r, h')) : zx_T sc (d + 6) 260 (97, [(0, .ref p0), (1, .ref p1), (2, .int p2), (3, .ref p3), (4, .int p4), (5, .ref p5), (6, .ref p6), (7, .int p7), (8, .int p8), (9, .ref p9)], [.ref p11, .ref p10]) h (zf_oAx r) h' := by
  unfold f_ColumnVaultLaw_filter_97 at hf
  replace hf := zf_be hf
  obtain ⟨_, ho, hf⟩ := hf
  replace hf := zf_b2e hf
  obtain ⟨v1, h2, hv, hf⟩ := hf
  refine zv_c zq_260 zo_260 rfl rfl rfl rfl rfl (zv_cv rfl rfl rfl (zf_ise ho) rfl) (t_f_StringBuilder_appendq3 _ _ _ _ _ hv) ?_
  refine zv_p (k := 7) (f' := (109, [(0, .ref p0), (1, .ref p1), (2, .int p2), (3, .ref p3), (4, .int p4), (5, .ref p5), (6, .ref p6), (7, .int p7), (8, .int p8), (9, .ref p9)], [.ref p5, .int p4, .ref p3, .int p2, .ref p1, .ref p0])) zq_260 zo_260 (by with_unfolding_all rfl) ?_
  replace hf := zf_b3e hf
  obtain ⟨v3, h4, hv, hf⟩ | ⟨E5, h4, hv, hf⟩ := hf
  rotate_left
  · cases hf; exact zv_cx zq_260 zo_260 rfl rfl rfl rfl rfl rfl (zv_dp 5 <| hr _ _ _ _ _ _ _ _ _ hv) rfl
  refine zv_c zq_260 zo_260 rfl rfl rfl rfl rfl rfl (zv_dp 5 <| hr _ _ _ _ _ _ _ _ _ hv) ?_
  refine zv_p (k := 2) (f' := (116, [(10, .ref v3), (0, .ref p0), (1, .ref p1), (2, .int p2), (3, .ref p3), (4, .int p4), (5, .ref p5), (6, .ref p6), (7, .int p7), (8, .int p8), (9, .ref p9)], [.ref p6])) zq_260 zo_260 (by with_unfolding_all rfl) ?_
  replace hf := zf_be hf
  obtain ⟨v6, hv, hf⟩ := hf
  refine zv_len zq_260 zo_260 rfl hv ?_
  replace hf := zf_b2e hf
  obtain ⟨q7, h8, hv, hf⟩ := hf
  refine zv_newa zq_260 zo_260 rfl rfl hv ?_
  refine zv_p (k := 3) (f' := (124, [(12, .int (0 : Int32)), (11, .ref q7), (10, .ref v3), (0, .ref p0), (1, .ref p1), (2, .int p2), (3, .ref p3), (4, .int p4), (5, .ref p5), (6, .ref p6), (7, .int p7), (8, .int p8), (9, .ref p9)], [])) zq_260 zo_260 (by with_unfolding_all rfl) ?_
  refine zv_pick (lv' := [(0, .ref p0), (1, .ref p1), (2, .int p2), (3, .ref p3), (4, .int p4), (5, .ref p5), (6, .ref p6), (7, .int p7), (8, .int p8), (9, .ref p9), (10, .ref v3), (11, .ref q7), (12, .int (0 : Int32))]) [0, 1, 2, 3, 4, 5, 6, 7, 8, 9, 10, 11, 12] rfl rfl ?_
  exact t_f_ColumnVaultLaw_filter_124 hr hk24 zF _ _ _ _ _ _ _ _ _ _ _ _ _ _ _ _ hf
set_option maxHeartbeats 1000000 in
def f_ColumnVaultLaw_filter_58 (r_261 : Nat → Nat → Int32 → Nat → Int32 → Nat → zx_H → Option ((Nat ⊕ Nat) × zx_H)) (k24 : Nat → Nat → Int32 → Nat → Int32 → Nat → Nat → Int32 → Int32 → zx_H → Option ((Nat ⊕ Nat) × zx_H)) (p0 : Nat) (p1 : Nat) (p2 : Int32) (p3 : Nat) (p4 : Int32) (p5 : Nat) (p6 : Nat) (p7 : Int32) (p8 : Int32) (h : zx_H) : Option ((Nat ⊕ Nat) × zx_H) :=
  zf_b3 (r_261 p0 p1 p2 p3 p4 p5 h) fun v1 h2 =>
  zf_b2 (f_ColumnVaultLaw_draw p0 (3 : Int32) h2) fun v4 h5 =>
  if ¬ v4 = 0 then
    f_ColumnVaultLaw_filter_171 r_261 k24 zF p0 p1 p2 p3 p4 p5 p6 p7 p8 v1 (0 : Int32) h5
  else
    zf_b2 (f_ColumnVaultLaw_draw p0 (2 : Int32) h5) fun v6 h7 =>
    if ¬ v6 = 0 then
      f_ColumnVaultLaw_filter_97 r_261 k24 p0 p1 p2 p3 p4 p5 p6 p7 p8 v1 p3 (zx_lim + 1 + 632) h7
    else
      f_ColumnVaultLaw_filter_97 r_261 k24 p0 p1 p2 p3 p4 p5 p6 p7 p8 v1 p3 (zx_lim + 1 + 630) h7
set_option maxHeartbeats 4000000 in
set_option maxRecDepth 400000 in
theorem t_f_ColumnVaultLaw_filter_58 {sc : (Nat × (Nat → Int32)) × Bool} {d : Nat} {r_261 : Nat → Nat → Int32 → Nat → Int32 → Nat → zx_H → Option ((Nat ⊕ Nat) × zx_H)} (hr : ∀ (a0 : Nat) (a1 : Nat) (a2 : Int32) (a3 : Nat) (a4 : Int32) (a5 : Nat) (h : zx_H) (r : (Nat ⊕ Nat)) (h' : zx_H), r_261 a0 a1 a2 a3 a4 a5 h = some (r, h') → zx_T sc d 261 (0, [(0, .ref a0), (1, .ref a1), (2, .int a2), (3, .ref a3), (4, .int a4), (5, .ref a5)], []) h (zf_oAx r) h') {k24 : Nat → Nat → Int32 → Nat → Int32 → Nat → Nat → Int32 → Int32 → zx_H → Option ((Nat ⊕ Nat) × zx_H)} (hk24 : ∀ (a0 : Nat) (a1 : Nat) (a2 : Int32) (a3 : Nat) (a4 : Int32) (a5 : Nat) (a6 : Nat) (a7 : Int32) (a8 : Int32) (h : zx_H) (r : (Nat ⊕ Nat)) (h' : zx_H), k24 a0 a1 a2 a3 a4 a5 a6 a7 a8 h = some (r, h') → zx_T sc (d + 6) 260 (24, [(0, .ref a0), (1, .ref a1), (2, .int a2), (3, .ref a3), (4, .int a4), (5, .ref a5), (6, .ref a6), (7, .int a7), (8, .int a8)], []) h (zf_oAx r) h') (p0 : Nat) (p1 : Nat) (p2 : Int32) (p3 : Nat) (p4 : Int32) (p5 : Nat) (p6 : Nat) (p7 : Int32) (p8 : Int32) (h : zx_H) (r : (Nat ⊕ Nat)) (h' : zx_H) (hf : f_ColumnVaultLaw_filter_58 r_261 k24 p0 p1 p2 p3 p4 p5 p6 p7 p8 h = some (r, h')) : zx_T sc (d + 6) 260 (58, [(0, .ref p0), (1, .ref p1), (2, .int p2), (3, .ref p3), (4, .int p4), (5, .ref p5), (6, .ref p6), (7, .int p7), (8, .int p8)], []) h (zf_oAx r) h' := by
  unfold f_ColumnVaultLaw_filter_58 at hf
  refine zv_p (k := 6) (f' := (66, [(0, .ref p0), (1, .ref p1), (2, .int p2), (3, .ref p3), (4, .int p4), (5, .ref p5), (6, .ref p6), (7, .int p7), (8, .int p8)], [.ref p5, .int p4, .ref p3, .int p2, .ref p1, .ref p0])) zq_260 zo_260 (by with_unfolding_all rfl) ?_
  replace hf := zf_b3e hf
  obtain ⟨v1, h2, hv, hf⟩ | ⟨E3, h2, hv, hf⟩ := hf
  rotate_left
  · cases hf; exact zv_cx zq_260 zo_260 rfl rfl rfl rfl rfl rfl (zv_dp 5 <| hr _ _ _ _ _ _ _ _ _ hv) rfl
  refine zv_c zq_260 zo_260 rfl rfl rfl rfl rfl rfl (zv_dp 5 <| hr _ _ _ _ _ _ _ _ _ hv) ?_
  refine zv_p (k := 3) (f' := (73, [(9, .ref v1), (0, .ref p0), (1, .ref p1), (2, .int p2), (3, .ref p3), (4, .int p4), (5, .ref p5), (6, .ref p6), (7, .int p7), (8, .int p8)], [.int (3 : Int32), .ref p0])) zq_260 zo_260 (by with_unfolding_all rfl) ?_
  replace hf := zf_b2e hf
  obtain ⟨v4, h5, hv, hf⟩ := hf
  refine zv_c zq_260 zo_260 rfl rfl rfl rfl rfl rfl (t_f_ColumnVaultLaw_draw _ _ _ _ _ hv) ?_
  replace hf := zf_ite hf
  obtain ⟨hc, hf⟩ | ⟨hc, hf⟩ := hf
  · refine zv_brT (off := 92) (tt := 168) (r := []) zq_260 zo_260 hc rfl rfl rfl ?_
    refine zv_p (k := 2) (f' := (171, [(10, .int (0 : Int32)), (9, .ref v1), (0, .ref p0), (1, .ref p1), (2, .int p2), (3, .ref p3), (4, .int p4), (5, .ref p5), (6, .ref p6), (7, .int p7), (8, .int p8)], [])) zq_260 zo_260 (by with_unfolding_all rfl) ?_
    refine zv_pick (lv' := [(0, .ref p0), (1, .ref p1), (2, .int p2), (3, .ref p3), (4, .int p4), (5, .ref p5), (6, .ref p6), (7, .int p7), (8, .int p8), (9, .ref v1), (10, .int (0 : Int32))]) [0, 1, 2, 3, 4, 5, 6, 7, 8, 9, 10] rfl rfl ?_
    exact t_f_ColumnVaultLaw_filter_171 hr hk24 zF _ _ _ _ _ _ _ _ _ _ _ _ _ _ hf
  · refine zv_brF (off := 92) (tt := 168) (r := []) zq_260 zo_260 hc rfl rfl rfl ?_
    refine zv_p (k := 3) (f' := (82, [(9, .ref v1), (0, .ref p0), (1, .ref p1), (2, .int p2), (3, .ref p3), (4, .int p4), (5, .ref p5), (6, .ref p6), (7, .int p7), (8, .int p8)], [.int (2 : Int32), .ref p0, .ref p3])) zq_260 zo_260 (by with_unfolding_all rfl) ?_
    replace hf := zf_b2e hf
    obtain ⟨v6, h7, hv, hf⟩ := hf
    refine zv_c zq_260 zo_260 rfl rfl rfl rfl rfl rfl (t_f_ColumnVaultLaw_draw _ _ _ _ _ hv) ?_
    replace hf := zf_ite hf
    obtain ⟨hc, hf⟩ | ⟨hc, hf⟩ := hf
    · refine zv_brT (off := 9) (tt := 94) (r := [.ref p3]) zq_260 zo_260 hc rfl rfl rfl ?_
      refine zv_strw zq_260 zo_260 rfl rfl ?_
      refine zv_pick (lv' := [(0, .ref p0), (1, .ref p1), (2, .int p2), (3, .ref p3), (4, .int p4), (5, .ref p5), (6, .ref p6), (7, .int p7), (8, .int p8), (9, .ref v1)]) [0, 1, 2, 3, 4, 5, 6, 7, 8, 9] rfl rfl ?_
      exact t_f_ColumnVaultLaw_filter_97 hr hk24 _ _ _ _ _ _ _ _ _ _ _ _ _ _ _ hf
    · refine zv_brF (off := 9) (tt := 94) (r := [.ref p3]) zq_260 zo_260 hc rfl rfl rfl ?_
      refine zv_strw zq_260 zo_260 rfl rfl ?_
      refine zv_p (k := 1) (f' := (97, [(9, .ref v1), (0, .ref p0), (1, .ref p1), (2, .int p2), (3, .ref p3), (4, .int p4), (5, .ref p5), (6, .ref p6), (7, .int p7), (8, .int p8)], [.ref (zx_lim + 1 + 630), .ref p3])) zq_260 zo_260 (by with_unfolding_all rfl) ?_
      refine zv_pick (lv' := [(0, .ref p0), (1, .ref p1), (2, .int p2), (3, .ref p3), (4, .int p4), (5, .ref p5), (6, .ref p6), (7, .int p7), (8, .int p8), (9, .ref v1)]) [0, 1, 2, 3, 4, 5, 6, 7, 8, 9] rfl rfl ?_
      exact t_f_ColumnVaultLaw_filter_97 hr hk24 _ _ _ _ _ _ _ _ _ _ _ _ _ _ _ hf
set_option maxHeartbeats 1000000 in
def f_ColumnVaultLaw_filter_24 (r_261 : Nat → Nat → Int32 → Nat → Int32 → Nat → zx_H → Option ((Nat ⊕ Nat) × zx_H)) : Nat → Nat → Nat → Int32 → Nat → Int32 → Nat → Nat → Int32 → Int32 → zx_H → Option ((Nat ⊕ Nat) × zx_H)
  | 0, _, _, _, _, _, _, _, _, _, _ => none
  | n + 1, p0, p1, p2, p3, p4, p5, p6, p7, p8, h =>
    if p7 ≤ p8 then
      some (.inl p6, h)
    else
      if p8 ≤ 0 then
        f_ColumnVaultLaw_filter_58 r_261 (f_ColumnVaultLaw_filter_24 r_261 n) p0 p1 p2 p3 p4 p5 p6 p7 p8 h
      else
        zf_b2 (f_ColumnVaultLaw_draw p0 (2 : Int32) h) fun v1 h2 =>
        if ¬ v1 = 0 then
          zf_b (zf_is 1 p3 h2) fun _ =>
          zf_b2 (f_StringBuilder_appendq3 p3 (zx_lim + 1 + 628) h2) fun v3 h4 =>
          f_ColumnVaultLaw_filter_58 r_261 (f_ColumnVaultLaw_filter_24 r_261 n) p0 p1 p2 p3 p4 p5 p6 p7 p8 h4
        else
          zf_b (zf_is 1 p3 h2) fun _ =>
          zf_b2 (f_StringBuilder_appendq3 p3 (zx_lim + 1 + 626) h2) fun v5 h6 =>
          f_ColumnVaultLaw_filter_58 r_261 (f_ColumnVaultLaw_filter_24 r_261 n) p0 p1 p2 p3 p4 p5 p6 p7 p8 h6
set_option maxHeartbeats 4000000 in
set_option maxRecDepth 400000 in
theorem t_f_ColumnVaultLaw_filter_24 {sc : (Nat × (Nat → Int32)) × Bool} {d : Nat} {r_261 : Nat → Nat → Int32 → Nat → Int32 → Nat → zx_H → Option ((Nat ⊕ Nat) × zx_H)} (hr : ∀ (a0 : Nat) (a1 : Nat) (a2 : Int32) (a3 : Nat) (a4 : Int32) (a5 : Nat) (h : zx_H) (r : (Nat ⊕ Nat)) (h' : zx_H), r_261 a0 a1 a2 a3 a4 a5 h = some (r, h') → zx_T sc d 261 (0, [(0, .ref a0), (1, .ref a1), (2, .int a2), (3, .ref a3), (4, .int a4), (5, .ref a5)], []) h (zf_oAx r) h') : ∀ (n : Nat) (p0 : Nat) (p1 : Nat) (p2 : Int32) (p3 : Nat) (p4 : Int32) (p5 : Nat) (p6 : Nat) (p7 : Int32) (p8 : Int32) (h : zx_H) (r : (Nat ⊕ Nat)) (h' : zx_H), f_ColumnVaultLaw_filter_24 r_261 n p0 p1 p2 p3 p4 p5 p6 p7 p8 h = some (r, h') → zx_T sc (d + 6) 260 (24, [(0, .ref p0), (1, .ref p1), (2, .int p2), (3, .ref p3), (4, .int p4), (5, .ref p5), (6, .ref p6), (7, .int p7), (8, .int p8)], []) h (zf_oAx r) h' := by
  intro n
  induction n with
  | zero => intro p0 p1 p2 p3 p4 p5 p6 p7 p8 h r h' hf; cases hf
  | succ n ih =>
    intro p0 p1 p2 p3 p4 p5 p6 p7 p8 h r h' hf
    unfold f_ColumnVaultLaw_filter_24 at hf
    refine zv_p (k := 2) (f' := (28, [(0, .ref p0), (1, .ref p1), (2, .int p2), (3, .ref p3), (4, .int p4), (5, .ref p5), (6, .ref p6), (7, .int p7), (8, .int p8)], [.int p7, .int p8])) zq_260 zo_260 (by with_unfolding_all rfl) ?_
    replace hf := zf_ite hf
    obtain ⟨hc, hf⟩ | ⟨hc, hf⟩ := hf
    · refine zv_brT (off := 176) (tt := 204) (r := []) zq_260 zo_260 hc rfl rfl rfl ?_
      refine zv_p (k := 1) (f' := (206, [(0, .ref p0), (1, .ref p1), (2, .int p2), (3, .ref p3), (4, .int p4), (5, .ref p5), (6, .ref p6), (7, .int p7), (8, .int p8)], [.ref p6])) zq_260 zo_260 (by with_unfolding_all rfl) ?_
      cases hf
      exact zv_r zq_260 zo_260 rfl rfl rfl rfl rfl
    · refine zv_brF (off := 176) (tt := 204) (r := []) zq_260 zo_260 hc rfl rfl rfl ?_
      refine zv_p (k := 1) (f' := (33, [(0, .ref p0), (1, .ref p1), (2, .int p2), (3, .ref p3), (4, .int p4), (5, .ref p5), (6, .ref p6), (7, .int p7), (8, .int p8)], [.int p8])) zq_260 zo_260 (by with_unfolding_all rfl) ?_
      replace hf := zf_ite hf
      obtain ⟨hc, hf⟩ | ⟨hc, hf⟩ := hf
      · refine zv_brT (off := 25) (tt := 58) (r := []) zq_260 zo_260 hc rfl rfl rfl ?_
        refine zv_pick (lv' := [(0, .ref p0), (1, .ref p1), (2, .int p2), (3, .ref p3), (4, .int p4), (5, .ref p5), (6, .ref p6), (7, .int p7), (8, .int p8)]) [0, 1, 2, 3, 4, 5, 6, 7, 8] rfl rfl ?_
        exact t_f_ColumnVaultLaw_filter_58 hr ih _ _ _ _ _ _ _ _ _ _ _ _ hf
      · refine zv_brF (off := 25) (tt := 58) (r := []) zq_260 zo_260 hc rfl rfl rfl ?_
        refine zv_p (k := 3) (f' := (39, [(0, .ref p0), (1, .ref p1), (2, .int p2), (3, .ref p3), (4, .int p4), (5, .ref p5), (6, .ref p6), (7, .int p7), (8, .int p8)], [.int (2 : Int32), .ref p0, .ref p3])) zq_260 zo_260 (by with_unfolding_all rfl) ?_
        replace hf := zf_b2e hf
        obtain ⟨v1, h2, hv, hf⟩ := hf
        refine zv_c zq_260 zo_260 rfl rfl rfl rfl rfl rfl (t_f_ColumnVaultLaw_draw _ _ _ _ _ hv) ?_
        replace hf := zf_ite hf
        obtain ⟨hc, hf⟩ | ⟨hc, hf⟩ := hf
        · refine zv_brT (off := 9) (tt := 51) (r := [.ref p3]) zq_260 zo_260 hc rfl rfl rfl ?_
          refine zv_strw zq_260 zo_260 rfl rfl ?_
          replace hf := zf_be hf
          obtain ⟨_, ho, hf⟩ := hf
          replace hf := zf_b2e hf
          obtain ⟨v3, h4, hv, hf⟩ := hf
          refine zv_c zq_260 zo_260 rfl rfl rfl rfl rfl (zv_cv rfl rfl rfl (zf_ise ho) rfl) (t_f_StringBuilder_appendq3 _ _ _ _ _ hv) ?_
          refine zv_p (k := 1) (f' := (58, [(0, .ref p0), (1, .ref p1), (2, .int p2), (3, .ref p3), (4, .int p4), (5, .ref p5), (6, .ref p6), (7, .int p7), (8, .int p8)], [])) zq_260 zo_260 (by with_unfolding_all rfl) ?_
          refine zv_pick (lv' := [(0, .ref p0), (1, .ref p1), (2, .int p2), (3, .ref p3), (4, .int p4), (5, .ref p5), (6, .ref p6), (7, .int p7), (8, .int p8)]) [0, 1, 2, 3, 4, 5, 6, 7, 8] rfl rfl ?_
          exact t_f_ColumnVaultLaw_filter_58 hr ih _ _ _ _ _ _ _ _ _ _ _ _ hf
        · refine zv_brF (off := 9) (tt := 51) (r := [.ref p3]) zq_260 zo_260 hc rfl rfl rfl ?_
          refine zv_strw zq_260 zo_260 rfl rfl ?_
          refine zv_p (k := 1) (f' := (54, [(0, .ref p0), (1, .ref p1), (2, .int p2), (3, .ref p3), (4, .int p4), (5, .ref p5), (6, .ref p6), (7, .int p7), (8, .int p8)], [.ref (zx_lim + 1 + 626), .ref p3])) zq_260 zo_260 (by with_unfolding_all rfl) ?_
          replace hf := zf_be hf
          obtain ⟨_, ho, hf⟩ := hf
          replace hf := zf_b2e hf
          obtain ⟨v5, h6, hv, hf⟩ := hf
          refine zv_c zq_260 zo_260 rfl rfl rfl rfl rfl (zv_cv rfl rfl rfl (zf_ise ho) rfl) (t_f_StringBuilder_appendq3 _ _ _ _ _ hv) ?_
          refine zv_p (k := 1) (f' := (58, [(0, .ref p0), (1, .ref p1), (2, .int p2), (3, .ref p3), (4, .int p4), (5, .ref p5), (6, .ref p6), (7, .int p7), (8, .int p8)], [])) zq_260 zo_260 (by with_unfolding_all rfl) ?_
          refine zv_pick (lv' := [(0, .ref p0), (1, .ref p1), (2, .int p2), (3, .ref p3), (4, .int p4), (5, .ref p5), (6, .ref p6), (7, .int p7), (8, .int p8)]) [0, 1, 2, 3, 4, 5, 6, 7, 8] rfl rfl ?_
          exact t_f_ColumnVaultLaw_filter_58 hr ih _ _ _ _ _ _ _ _ _ _ _ _ hf
set_option maxHeartbeats 1000000 in
def f_ColumnVaultLaw_filter (r_261 : Nat → Nat → Int32 → Nat → Int32 → Nat → zx_H → Option ((Nat ⊕ Nat) × zx_H)) (p0 : Nat) (p1 : Nat) (p2 : Int32) (p3 : Nat) (p4 : Int32) (p5 : Nat) (h : zx_H) : Option ((Nat ⊕ Nat) × zx_H) :=
  zf_b (zf_is 12 p1 h) fun _ =>
  zf_b3 (f_ColumnVault_size p1 p2 (0 : Int32) h) fun v1 h2 =>
  zf_b2 (zf_newa .boolean 5 v1 h2) fun q4 h5 =>
  zf_b2 (f_ColumnVaultLaw_draw p0 (5 : Int32) h5) fun v6 h7 =>
  f_ColumnVaultLaw_filter_24 r_261 zF p0 p1 p2 p3 p4 p5 q4 ((1 : Int32) + (v6 / (3 : Int32))) (0 : Int32) h7
set_option maxHeartbeats 4000000 in
set_option maxRecDepth 400000 in
theorem t_f_ColumnVaultLaw_filter {sc : (Nat × (Nat → Int32)) × Bool} {d : Nat} {r_261 : Nat → Nat → Int32 → Nat → Int32 → Nat → zx_H → Option ((Nat ⊕ Nat) × zx_H)} (hr : ∀ (a0 : Nat) (a1 : Nat) (a2 : Int32) (a3 : Nat) (a4 : Int32) (a5 : Nat) (h : zx_H) (r : (Nat ⊕ Nat)) (h' : zx_H), r_261 a0 a1 a2 a3 a4 a5 h = some (r, h') → zx_T sc d 261 (0, [(0, .ref a0), (1, .ref a1), (2, .int a2), (3, .ref a3), (4, .int a4), (5, .ref a5)], []) h (zf_oAx r) h') (p0 : Nat) (p1 : Nat) (p2 : Int32) (p3 : Nat) (p4 : Int32) (p5 : Nat) (h : zx_H) (r : (Nat ⊕ Nat)) (h' : zx_H) (hf : f_ColumnVaultLaw_filter r_261 p0 p1 p2 p3 p4 p5 h = some (r, h')) : zx_T sc (d + 6) 260 (0, [(0, .ref p0), (1, .ref p1), (2, .int p2), (3, .ref p3), (4, .int p4), (5, .ref p5)], []) h (zf_oAx r) h' := by
  unfold f_ColumnVaultLaw_filter at hf
  refine zv_p (k := 3) (f' := (3, [(0, .ref p0), (1, .ref p1), (2, .int p2), (3, .ref p3), (4, .int p4), (5, .ref p5)], [.int (0 : Int32), .int p2, .ref p1])) zq_260 zo_260 (by with_unfolding_all rfl) ?_
  replace hf := zf_be hf
  obtain ⟨_, ho, hf⟩ := hf
  replace hf := zf_b3e hf
  obtain ⟨v1, h2, hv, hf⟩ | ⟨E3, h2, hv, hf⟩ := hf
  rotate_left
  · cases hf; exact zv_cx zq_260 zo_260 rfl rfl rfl rfl rfl (zv_cv rfl rfl rfl (zf_ise ho) rfl) (t_f_ColumnVault_size _ _ _ _ _ _ hv) rfl
  refine zv_c zq_260 zo_260 rfl rfl rfl rfl rfl (zv_cv rfl rfl rfl (zf_ise ho) rfl) (t_f_ColumnVault_size _ _ _ _ _ _ hv) ?_
  replace hf := zf_b2e hf
  obtain ⟨q4, h5, hv, hf⟩ := hf
  refine zv_newa zq_260 zo_260 rfl rfl hv ?_
  refine zv_p (k := 4) (f' := (13, [(6, .ref q4), (0, .ref p0), (1, .ref p1), (2, .int p2), (3, .ref p3), (4, .int p4), (5, .ref p5)], [.int (5 : Int32), .ref p0, .int (1 : Int32)])) zq_260 zo_260 (by with_unfolding_all rfl) ?_
  replace hf := zf_b2e hf
  obtain ⟨v6, h7, hv, hf⟩ := hf
  refine zv_c zq_260 zo_260 rfl rfl rfl rfl rfl rfl (t_f_ColumnVaultLaw_draw _ _ _ _ _ hv) ?_
  refine zv_p (k := 6) (f' := (24, [(8, .int (0 : Int32)), (7, .int ((1 : Int32) + (v6 / (3 : Int32)))), (6, .ref q4), (0, .ref p0), (1, .ref p1), (2, .int p2), (3, .ref p3), (4, .int p4), (5, .ref p5)], [])) zq_260 zo_260 (by with_unfolding_all rfl) ?_
  refine zv_pick (lv' := [(0, .ref p0), (1, .ref p1), (2, .int p2), (3, .ref p3), (4, .int p4), (5, .ref p5), (6, .ref q4), (7, .int ((1 : Int32) + (v6 / (3 : Int32)))), (8, .int (0 : Int32))]) [0, 1, 2, 3, 4, 5, 6, 7, 8] rfl rfl ?_
  exact t_f_ColumnVaultLaw_filter_24 hr zF _ _ _ _ _ _ _ _ _ _ _ _ hf
/-! ColumnVaultLaw.piece (arr ILColumnVault;ILjava/lang/StringBuilder;Iarr I)arr Z -/
noncomputable def zI_261 : zd_T := [[(0, .aload_n 0, 1), (1, .bipush 6, 2), (3, .invokestatic 16, 3), (6, .istore 6, 2), (8, .iload 6, 2), (10, .ifCond .ne 89, 3), (13, .iload 4, 2), (15, .iconst 3, 1), (16, .if_icmp .ge 83, 3), (19, .aload_n 3, 1), (20, .aload_n 0, 1), (21, .iconst 2, 1), (22, .invokestatic 16, 3), (25, .ifCond .ne 8, 3), (28, .ldc 244, 2), (30, .goto 5, 3)], [(33, .ldc 246, 2), (35, .invokevirtual 219, 3), (38, .pop, 1), (39, .aload_n 0, 1), (40, .aload_n 1, 1), (41, .iload_n 2, 1), (42, .aload_n 3, 1), (43, .iload 4, 2), (45, .iconst 1, 1), (46, .iadd, 1), (47, .aload 5, 2), (49, .invokestatic 248, 3), (52, .astore 7, 2), (54, .aload 7, 2), (56, .arraylength, 1), (57, .newarray .boolean, 2), (59, .astore 8, 2), (61, .iconst 0, 1), (62, .istore 9, 2)], [(64, .iload 9, 2), (66, .aload 7, 2), (68, .arraylength, 1), (69, .if_icmp .ge 27, 3), (72, .aload 8, 2), (74, .iload 9, 2), (76, .aload 7, 2), (78, .iload 9, 2), (80, .baload, 1), (81, .ifCond .ne 7, 3), (84, .iconst 1, 1), (85, .goto 4, 3), (88, .iconst 0, 1), (89, .bastore, 1), (90, .iinc 9 1, 3), (93, .goto (-29), 3)], [(96, .aload 8, 2), (98, .areturn, 1), (99, .iload 6, 2), (101, .iconst 1, 1), (102, .if_icmp .ne 42, 3), (105, .iload 4, 2), (107, .iconst 2, 1), (108, .if_icmp .ge 36, 3), (111, .aload_n 3, 1), (112, .ldc 252, 2), (114, .invokevirtual 219, 3), (117, .pop, 1), (118, .aload_n 0, 1), (119, .aload_n 1, 1), (120, .iload_n 2, 1), (121, .aload_n 3, 1), (122, .iload 4, 2), (124, .iconst 1, 1), (125, .iadd, 1), (126, .aload 5, 2)], [(128, .invokestatic 254, 3), (131, .astore 7, 2), (133, .aload_n 3, 1), (134, .ldc_w 257, 3), (137, .invokevirtual 219, 3), (140, .pop, 1), (141, .aload 7, 2), (143, .areturn, 1), (144, .aload_n 0, 1), (145, .aload_n 1, 1), (146, .iload_n 2, 1), (147, .aload_n 3, 1), (148, .aload 5, 2), (150, .invokestatic 259, 3), (153, .areturn, 1)]]
theorem zo_261 : zd_of 261 = some zI_261 := rfl
set_option maxRecDepth 100000 in
theorem zq_261 : zt_m[261]? = some (⟨"ColumnVaultLaw", "piece", "([ILColumnVault;ILjava/lang/StringBuilder;I[I)[Z"⟩, method_19_code, 10, some (.array (.boolean)), [], 17, 6, 0, 1, 99999, 0) := rfl
set_option maxHeartbeats 1000000 in
def f_ColumnVaultLaw_piece_64 (r_261 : Nat → Nat → Int32 → Nat → Int32 → Nat → zx_H → Option ((Nat ⊕ Nat) × zx_H)) : Nat → Nat → Nat → Int32 → zx_H → Option ((Nat ⊕ Nat) × zx_H)
  | 0, _, _, _, _ => none
  | n + 1, p0, p1, p2, h =>
    zf_b (zf_len p0 h) fun v1 =>
    if v1 ≤ p2 then
      some (.inl p1, h)
    else
      zf_b (zf_ldB p0 p2 h) fun v2 =>
      if ¬ v2 = 0 then
        zf_b (zf_stB p1 p2 (0 : Int32) h) fun h3 =>
        (f_ColumnVaultLaw_piece_64 r_261 n) p0 p1 (p2 + (1 : Int32)) h3
      else
        zf_b (zf_stB p1 p2 (1 : Int32) h) fun h4 =>
        (f_ColumnVaultLaw_piece_64 r_261 n) p0 p1 (p2 + (1 : Int32)) h4
set_option maxHeartbeats 4000000 in
set_option maxRecDepth 400000 in
theorem t_f_ColumnVaultLaw_piece_64 {sc : (Nat × (Nat → Int32)) × Bool} {d : Nat} {r_261 : Nat → Nat → Int32 → Nat → Int32 → Nat → zx_H → Option ((Nat ⊕ Nat) × zx_H)} (hr : ∀ (a0 : Nat) (a1 : Nat) (a2 : Int32) (a3 : Nat) (a4 : Int32) (a5 : Nat) (h : zx_H) (r : (Nat ⊕ Nat)) (h' : zx_H), r_261 a0 a1 a2 a3 a4 a5 h = some (r, h') → zx_T sc d 261 (0, [(0, .ref a0), (1, .ref a1), (2, .int a2), (3, .ref a3), (4, .int a4), (5, .ref a5)], []) h (zf_oAx r) h') : ∀ (n : Nat) (p0 : Nat) (p1 : Nat) (p2 : Int32) (h : zx_H) (r : (Nat ⊕ Nat)) (h' : zx_H), f_ColumnVaultLaw_piece_64 r_261 n p0 p1 p2 h = some (r, h') → zx_T sc (d + 9) 261 (64, [(7, .ref p0), (8, .ref p1), (9, .int p2)], []) h (zf_oAx r) h' := by
  intro n
  induction n with
  | zero => intro p0 p1 p2 h r h' hf; cases hf
  | succ n ih =>
    intro p0 p1 p2 h r h' hf
    unfold f_ColumnVaultLaw_piece_64 at hf
    refine zv_p (k := 2) (f' := (68, [(7, .ref p0), (8, .ref p1), (9, .int p2)], [.ref p0, .int p2])) zq_261 zo_261 (by with_unfolding_all rfl) ?_
    replace hf := zf_be hf
    obtain ⟨v1, hv, hf⟩ := hf
    refine zv_len zq_261 zo_261 rfl hv ?_
    replace hf := zf_ite hf
    obtain ⟨hc, hf⟩ | ⟨hc, hf⟩ := hf
    · refine zv_brT (off := 27) (tt := 96) (r := []) zq_261 zo_261 hc rfl rfl rfl ?_
      refine zv_p (k := 1) (f' := (98, [(7, .ref p0), (8, .ref p1), (9, .int p2)], [.ref p1])) zq_261 zo_261 (by with_unfolding_all rfl) ?_
      cases hf
      exact zv_r zq_261 zo_261 rfl rfl rfl rfl rfl
    · refine zv_brF (off := 27) (tt := 96) (r := []) zq_261 zo_261 hc rfl rfl rfl ?_
      refine zv_p (k := 4) (f' := (80, [(7, .ref p0), (8, .ref p1), (9, .int p2)], [.int p2, .ref p0, .int p2, .ref p1])) zq_261 zo_261 (by with_unfolding_all rfl) ?_
      replace hf := zf_be hf
      obtain ⟨v2, hv, hf⟩ := hf
      refine zv_ldB zq_261 zo_261 rfl hv ?_
      replace hf := zf_ite hf
      obtain ⟨hc, hf⟩ | ⟨hc, hf⟩ := hf
      · refine zv_brT (off := 7) (tt := 88) (r := [.int p2, .ref p1]) zq_261 zo_261 hc rfl rfl rfl ?_
        refine zv_p (k := 1) (f' := (89, [(7, .ref p0), (8, .ref p1), (9, .int p2)], [.int (0 : Int32), .int p2, .ref p1])) zq_261 zo_261 (by with_unfolding_all rfl) ?_
        replace hf := zf_be hf
        obtain ⟨h3, hv, hf⟩ := hf
        refine zv_stB zq_261 zo_261 rfl hv ?_
        refine zv_p (k := 2) (f' := (64, [(9, .int (p2 + (1 : Int32))), (7, .ref p0), (8, .ref p1)], [])) zq_261 zo_261 (by with_unfolding_all rfl) ?_
        refine zv_pick (lv' := [(7, .ref p0), (8, .ref p1), (9, .int (p2 + (1 : Int32)))]) [7, 8, 9] rfl rfl ?_
        exact ih _ _ _ _ _ _ hf
      · refine zv_brF (off := 7) (tt := 88) (r := [.int p2, .ref p1]) zq_261 zo_261 hc rfl rfl rfl ?_
        refine zv_p (k := 2) (f' := (89, [(7, .ref p0), (8, .ref p1), (9, .int p2)], [.int (1 : Int32), .int p2, .ref p1])) zq_261 zo_261 (by with_unfolding_all rfl) ?_
        replace hf := zf_be hf
        obtain ⟨h4, hv, hf⟩ := hf
        refine zv_stB zq_261 zo_261 rfl hv ?_
        refine zv_p (k := 2) (f' := (64, [(9, .int (p2 + (1 : Int32))), (7, .ref p0), (8, .ref p1)], [])) zq_261 zo_261 (by with_unfolding_all rfl) ?_
        refine zv_pick (lv' := [(7, .ref p0), (8, .ref p1), (9, .int (p2 + (1 : Int32)))]) [7, 8, 9] rfl rfl ?_
        exact ih _ _ _ _ _ _ hf
set_option maxHeartbeats 1000000 in
def f_ColumnVaultLaw_piece_35 (r_261 : Nat → Nat → Int32 → Nat → Int32 → Nat → zx_H → Option ((Nat ⊕ Nat) × zx_H)) (p0 : Nat) (p1 : Nat) (p2 : Int32) (p3 : Nat) (p4 : Int32) (p5 : Nat) (p6 : Nat) (p7 : Nat) (h : zx_H) : Option ((Nat ⊕ Nat) × zx_H) :=
  zf_b (zf_is 1 p6 h) fun _ =>
  zf_b2 (f_StringBuilder_appendq3 p6 p7 h) fun v1 h2 =>
  zf_b3 (r_261 p0 p1 p2 p3 (p4 + (1 : Int32)) p5 h2) fun v3 h4 =>
  zf_b (zf_len v3 h4) fun v6 =>
  zf_b2 (zf_newa .boolean 5 v6 h4) fun q7 h8 =>
  f_ColumnVaultLaw_piece_64 r_261 zF v3 q7 (0 : Int32) h8
set_option maxHeartbeats 4000000 in
set_option maxRecDepth 400000 in
theorem t_f_ColumnVaultLaw_piece_35 {sc : (Nat × (Nat → Int32)) × Bool} {d : Nat} {r_261 : Nat → Nat → Int32 → Nat → Int32 → Nat → zx_H → Option ((Nat ⊕ Nat) × zx_H)} (hr : ∀ (a0 : Nat) (a1 : Nat) (a2 : Int32) (a3 : Nat) (a4 : Int32) (a5 : Nat) (h : zx_H) (r : (Nat ⊕ Nat)) (h' : zx_H), r_261 a0 a1 a2 a3 a4 a5 h = some (r, h') → zx_T sc d 261 (0, [(0, .ref a0), (1, .ref a1), (2, .int a2), (3, .ref a3), (4, .int a4), (5, .ref a5)], []) h (zf_oAx r) h') (p0 : Nat) (p1 : Nat) (p2 : Int32) (p3 : Nat) (p4 : Int32) (p5 : Nat) (p6 : Nat) (p7 : Nat) (h : zx_H) (r : (Nat ⊕ Nat)) (h' : zx_H) (hf : f_ColumnVaultLaw_piece_35 r_261 p0 p1 p2 p3 p4 p5 p6 p7 h = some (r, h')) : zx_T sc (d + 9) 261 (35, [(0, .ref p0), (1, .ref p1), (2, .int p2), (3, .ref p3), (4, .int p4), (5, .ref p5)], [.ref p7, .ref p6]) h (zf_oAx r) h' := by
  unfold f_ColumnVaultLaw_piece_35 at hf
  replace hf := zf_be hf
  obtain ⟨_, ho, hf⟩ := hf
  replace hf := zf_b2e hf
  obtain ⟨v1, h2, hv, hf⟩ := hf
  refine zv_c zq_261 zo_261 rfl rfl rfl rfl rfl (zv_cv rfl rfl rfl (zf_ise ho) rfl) (t_f_StringBuilder_appendq3 _ _ _ _ _ hv) ?_
  refine zv_p (k := 8) (f' := (47, [(0, .ref p0), (1, .ref p1), (2, .int p2), (3, .ref p3), (4, .int p4), (5, .ref p5)], [.int (p4 + (1 : Int32)), .ref p3, .int p2, .ref p1, .ref p0])) zq_261 zo_261 (by with_unfolding_all rfl) ?_
  refine zv_p (k := 1) (f' := (49, [(0, .ref p0), (1, .ref p1), (2, .int p2), (3, .ref p3), (4, .int p4), (5, .ref p5)], [.ref p5, .int (p4 + (1 : Int32)), .ref p3, .int p2, .ref p1, .ref p0])) zq_261 zo_261 (by with_unfolding_all rfl) ?_
  replace hf := zf_b3e hf
  obtain ⟨v3, h4, hv, hf⟩ | ⟨E5, h4, hv, hf⟩ := hf
  rotate_left
  · cases hf; exact zv_cx zq_261 zo_261 rfl rfl rfl rfl rfl rfl (zv_dp 8 <| hr _ _ _ _ _ _ _ _ _ hv) rfl
  refine zv_c zq_261 zo_261 rfl rfl rfl rfl rfl rfl (zv_dp 8 <| hr _ _ _ _ _ _ _ _ _ hv) ?_
  refine zv_p (k := 2) (f' := (56, [(7, .ref v3), (0, .ref p0), (1, .ref p1), (2, .int p2), (3, .ref p3), (4, .int p4), (5, .ref p5)], [.ref v3])) zq_261 zo_261 (by with_unfolding_all rfl) ?_
  replace hf := zf_be hf
  obtain ⟨v6, hv, hf⟩ := hf
  refine zv_len zq_261 zo_261 rfl hv ?_
  replace hf := zf_b2e hf
  obtain ⟨q7, h8, hv, hf⟩ := hf
  refine zv_newa zq_261 zo_261 rfl rfl hv ?_
  refine zv_p (k := 3) (f' := (64, [(9, .int (0 : Int32)), (8, .ref q7), (7, .ref v3), (0, .ref p0), (1, .ref p1), (2, .int p2), (3, .ref p3), (4, .int p4), (5, .ref p5)], [])) zq_261 zo_261 (by with_unfolding_all rfl) ?_
  refine zv_pick (lv' := [(7, .ref v3), (8, .ref q7), (9, .int (0 : Int32))]) [7, 8, 9] rfl rfl ?_
  exact t_f_ColumnVaultLaw_piece_64 hr zF _ _ _ _ _ _ hf
