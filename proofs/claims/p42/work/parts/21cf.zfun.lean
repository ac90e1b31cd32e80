set_option maxHeartbeats 1000000 in
def f_ColumnVaultLaw_isTold_723 (k638 : Nat → Int32 → Int32 → Int32 → Int32 → Int32 → Int64 → Int32 → Int32 → Int32 → Int32 → zx_H → Option ((Int32 ⊕ Nat) × zx_H)) : Nat → Nat → Int32 → Int32 → Int32 → Int32 → Int32 → Int64 → Int32 → Int32 → Int32 → Int32 → Int64 → Int32 → Int32 → zx_H → Option ((Int32 ⊕ Nat) × zx_H)
  | 0, _, _, _, _, _, _, _, _, _, _, _, _, _, _, _ => none
  | n + 1, p0, p1, p2, p3, p4, p5, p6, p7, p8, p9, p10, p11, p12, p13, h =>
    if p10 ≤ p13 then
      if p12 = 0 then
        k638 p0 p1 p2 p3 p4 p5 p6 p7 p8 (p9 + (0 : Int32)) (p10 + (1 : Int32)) h
      else
        k638 p0 p1 p2 p3 p4 p5 p6 p7 p8 (p9 + (1 : Int32)) (p10 + (1 : Int32)) h
    else
      zf_b (zf_is 12 p0 h) fun _ =>
      zf_b3 (f_ColumnVault_isChosen p0 p1 p13 h) fun v1 h2 =>
      if v1 = 0 then
        (f_ColumnVaultLaw_isTold_723 k638 n) p0 p1 p2 p3 p4 p5 p6 p7 p8 p9 p10 p11 (p12 &&& (1 : Int32)) (p13 + (1 : Int32)) h2
      else
        zf_b (zf_is 12 p0 h2) fun _ =>
        zf_b3 (f_ColumnVault_get p0 p1 p13 p2 h2) fun v4 h5 =>
        if v4 = p11 then
          (f_ColumnVaultLaw_isTold_723 k638 n) p0 p1 p2 p3 p4 p5 p6 p7 p8 p9 p10 p11 (p12 &&& (0 : Int32)) (p13 + (1 : Int32)) h5
        else
          (f_ColumnVaultLaw_isTold_723 k638 n) p0 p1 p2 p3 p4 p5 p6 p7 p8 p9 p10 p11 (p12 &&& (1 : Int32)) (p13 + (1 : Int32)) h5
set_option maxHeartbeats 4000000 in
set_option maxRecDepth 400000 in
theorem t_f_ColumnVaultLaw_isTold_723 {sc : (Nat × (Nat → Int32)) × Bool} {d : Nat} {k638 : Nat → Int32 → Int32 → Int32 → Int32 → Int32 → Int64 → Int32 → Int32 → Int32 → Int32 → zx_H → Option ((Int32 ⊕ Nat) × zx_H)} (hk638 : ∀ (a0 : Nat) (a1 : Int32) (a2 : Int32) (a3 : Int32) (a4 : Int32) (a5 : Int32) (a6 : Int64) (a7 : Int32) (a8 : Int32) (a9 : Int32) (a10 : Int32) (h : zx_H) (r : (Int32 ⊕ Nat)) (h' : zx_H), k638 a0 a1 a2 a3 a4 a5 a6 a7 a8 a9 a10 h = some (r, h') → zx_T sc (d + 125) 296 (638, [(0, .ref a0), (2, .int a1), (3, .int a2), (4, .int a3), (6, .int a4), (12, .int a5), (19, .long a6), (21, .int a7), (22, .int a8), (23, .int a9), (24, .int a10)], []) h (zf_oIx r) h') : ∀ (n : Nat) (p0 : Nat) (p1 : Int32) (p2 : Int32) (p3 : Int32) (p4 : Int32) (p5 : Int32) (p6 : Int64) (p7 : Int32) (p8 : Int32) (p9 : Int32) (p10 : Int32) (p11 : Int64) (p12 : Int32) (p13 : Int32) (h : zx_H) (r : (Int32 ⊕ Nat)) (h' : zx_H), f_ColumnVaultLaw_isTold_723 k638 n p0 p1 p2 p3 p4 p5 p6 p7 p8 p9 p10 p11 p12 p13 h = some (r, h') → zx_T sc (d + 125) 296 (723, [(0, .ref p0), (2, .int p1), (3, .int p2), (4, .int p3), (6, .int p4), (12, .int p5), (19, .long p6), (21, .int p7), (22, .int p8), (23, .int p9), (24, .int p10), (25, .long p11), (27, .int p12), (28, .int p13)], []) h (zf_oIx r) h' := by
  intro n
  induction n with
  | zero => intro p0 p1 p2 p3 p4 p5 p6 p7 p8 p9 p10 p11 p12 p13 h r h' hf; cases hf
  | succ n ih =>
    intro p0 p1 p2 p3 p4 p5 p6 p7 p8 p9 p10 p11 p12 p13 h r h' hf
    unfold f_ColumnVaultLaw_isTold_723 at hf
    refine zv_p (k := 2) (f' := (727, [(0, .ref p0), (2, .int p1), (3, .int p2), (4, .int p3), (6, .int p4), (12, .int p5), (19, .long p6), (21, .int p7), (22, .int p8), (23, .int p9), (24, .int p10), (25, .long p11), (27, .int p12), (28, .int p13)], [.int p10, .int p13])) zq_296 zo_296 (by with_unfolding_all rfl) ?_
    replace hf := zf_ite hf
    obtain ⟨hc, hf⟩ | ⟨hc, hf⟩ := hf
    · refine zv_brT (off := 43) (tt := 770) (r := []) zq_296 zo_296 hc rfl rfl rfl ?_
      refine zv_p (k := 2) (f' := (774, [(0, .ref p0), (2, .int p1), (3, .int p2), (4, .int p3), (6, .int p4), (12, .int p5), (19, .long p6), (21, .int p7), (22, .int p8), (23, .int p9), (24, .int p10), (25, .long p11), (27, .int p12), (28, .int p13)], [.int p12, .int p9])) zq_296 zo_296 (by with_unfolding_all rfl) ?_
      replace hf := zf_ite hf
      obtain ⟨hc, hf⟩ | ⟨hc, hf⟩ := hf
      · refine zv_brT (off := 7) (tt := 781) (r := [.int p9]) zq_296 zo_296 hc rfl rfl rfl ?_
        refine zv_p (k := 5) (f' := (638, [(24, .int (p10 + (1 : Int32))), (23, .int (p9 + (0 : Int32))), (0, .ref p0), (2, .int p1), (3, .int p2), (4, .int p3), (6, .int p4), (12, .int p5), (19, .long p6), (21, .int p7), (22, .int p8), (25, .long p11), (27, .int p12), (28, .int p13)], [])) zq_296 zo_296 (by with_unfolding_all rfl) ?_
        refine zv_pick (lv' := [(0, .ref p0), (2, .int p1), (3, .int p2), (4, .int p3), (6, .int p4), (12, .int p5), (19, .long p6), (21, .int p7), (22, .int p8), (23, .int (p9 + (0 : Int32))), (24, .int (p10 + (1 : Int32)))]) [0, 2, 3, 4, 6, 12, 19, 21, 22, 23, 24] rfl rfl ?_
        exact hk638 _ _ _ _ _ _ _ _ _ _ _ _ _ _ hf
      · refine zv_brF (off := 7) (tt := 781) (r := [.int p9]) zq_296 zo_296 hc rfl rfl rfl ?_
        refine zv_p (k := 6) (f' := (638, [(24, .int (p10 + (1 : Int32))), (23, .int (p9 + (1 : Int32))), (0, .ref p0), (2, .int p1), (3, .int p2), (4, .int p3), (6, .int p4), (12, .int p5), (19, .long p6), (21, .int p7), (22, .int p8), (25, .long p11), (27, .int p12), (28, .int p13)], [])) zq_296 zo_296 (by with_unfolding_all rfl) ?_
        refine zv_pick (lv' := [(0, .ref p0), (2, .int p1), (3, .int p2), (4, .int p3), (6, .int p4), (12, .int p5), (19, .long p6), (21, .int p7), (22, .int p8), (23, .int (p9 + (1 : Int32))), (24, .int (p10 + (1 : Int32)))]) [0, 2, 3, 4, 6, 12, 19, 21, 22, 23, 24] rfl rfl ?_
        exact hk638 _ _ _ _ _ _ _ _ _ _ _ _ _ _ hf
    · refine zv_brF (off := 43) (tt := 770) (r := []) zq_296 zo_296 hc rfl rfl rfl ?_
      refine zv_p (k := 4) (f' := (736, [(0, .ref p0), (2, .int p1), (3, .int p2), (4, .int p3), (6, .int p4), (12, .int p5), (19, .long p6), (21, .int p7), (22, .int p8), (23, .int p9), (24, .int p10), (25, .long p11), (27, .int p12), (28, .int p13)], [.int p13, .int p1, .ref p0, .int p12])) zq_296 zo_296 (by with_unfolding_all rfl) ?_
      replace hf := zf_be hf
      obtain ⟨_, ho, hf⟩ := hf
      replace hf := zf_b3e hf
      obtain ⟨v1, h2, hv, hf⟩ | ⟨E3, h2, hv, hf⟩ := hf
      rotate_left
      · cases hf; exact zv_cx zq_296 zo_296 rfl rfl rfl rfl rfl (zv_cv rfl rfl rfl (zf_ise ho) rfl) (t_f_ColumnVault_isChosen _ _ _ _ _ _ hv) rfl
      refine zv_c zq_296 zo_296 rfl rfl rfl rfl rfl (zv_cv rfl rfl rfl (zf_ise ho) rfl) (t_f_ColumnVault_isChosen _ _ _ _ _ _ hv) ?_
      replace hf := zf_ite hf
      obtain ⟨hc, hf⟩ | ⟨hc, hf⟩ := hf
      · refine zv_brT (off := 17) (tt := 756) (r := [.int p12]) zq_296 zo_296 hc rfl rfl rfl ?_
        refine zv_p (k := 6) (f' := (723, [(28, .int (p13 + (1 : Int32))), (27, .int (p12 &&& (1 : Int32))), (0, .ref p0), (2, .int p1), (3, .int p2), (4, .int p3), (6, .int p4), (12, .int p5), (19, .long p6), (21, .int p7), (22, .int p8), (23, .int p9), (24, .int p10), (25, .long p11)], [])) zq_296 zo_296 (by with_unfolding_all rfl) ?_
        refine zv_pick (lv' := [(0, .ref p0), (2, .int p1), (3, .int p2), (4, .int p3), (6, .int p4), (12, .int p5), (19, .long p6), (21, .int p7), (22, .int p8), (23, .int p9), (24, .int p10), (25, .long p11), (27, .int (p12 &&& (1 : Int32))), (28, .int (p13 + (1 : Int32)))]) [0, 2, 3, 4, 6, 12, 19, 21, 22, 23, 24, 25, 27, 28] rfl rfl ?_
        exact ih _ _ _ _ _ _ _ _ _ _ _ _ _ _ _ _ _ hf
      · refine zv_brF (off := 17) (tt := 756) (r := [.int p12]) zq_296 zo_296 hc rfl rfl rfl ?_
        refine zv_p (k := 4) (f' := (747, [(0, .ref p0), (2, .int p1), (3, .int p2), (4, .int p3), (6, .int p4), (12, .int p5), (19, .long p6), (21, .int p7), (22, .int p8), (23, .int p9), (24, .int p10), (25, .long p11), (27, .int p12), (28, .int p13)], [.int p2, .int p13, .int p1, .ref p0, .int p12])) zq_296 zo_296 (by with_unfolding_all rfl) ?_
        replace hf := zf_be hf
        obtain ⟨_, ho, hf⟩ := hf
        replace hf := zf_b3e hf
        obtain ⟨v4, h5, hv, hf⟩ | ⟨E6, h5, hv, hf⟩ := hf
        rotate_left
        · cases hf; exact zv_cx zq_296 zo_296 rfl rfl rfl rfl rfl (zv_cv rfl rfl rfl (zf_ise ho) rfl) (t_f_ColumnVault_get _ _ _ _ _ _ _ hv) rfl
        refine zv_c zq_296 zo_296 rfl rfl rfl rfl rfl (zv_cv rfl rfl rfl (zf_ise ho) rfl) (t_f_ColumnVault_get _ _ _ _ _ _ _ hv) ?_
        refine zv_p (k := 2) (f' := (753, [(0, .ref p0), (2, .int p1), (3, .int p2), (4, .int p3), (6, .int p4), (12, .int p5), (19, .long p6), (21, .int p7), (22, .int p8), (23, .int p9), (24, .int p10), (25, .long p11), (27, .int p12), (28, .int p13)], [.int (lg_cmp v4 p11), .int p12])) zq_296 zo_296 (by with_unfolding_all rfl) ?_
        replace hf := zf_ite hf
        obtain ⟨hc, hf⟩ | ⟨hc, hf⟩ := hf
        · refine zv_brT (off := 7) (tt := 760) (r := [.int p12]) zq_296 zo_296 (zl_eq.mpr hc) rfl rfl rfl ?_
          refine zv_p (k := 5) (f' := (723, [(28, .int (p13 + (1 : Int32))), (27, .int (p12 &&& (0 : Int32))), (0, .ref p0), (2, .int p1), (3, .int p2), (4, .int p3), (6, .int p4), (12, .int p5), (19, .long p6), (21, .int p7), (22, .int p8), (23, .int p9), (24, .int p10), (25, .long p11)], [])) zq_296 zo_296 (by with_unfolding_all rfl) ?_
          refine zv_pick (lv' := [(0, .ref p0), (2, .int p1), (3, .int p2), (4, .int p3), (6, .int p4), (12, .int p5), (19, .long p6), (21, .int p7), (22, .int p8), (23, .int p9), (24, .int p10), (25, .long p11), (27, .int (p12 &&& (0 : Int32))), (28, .int (p13 + (1 : Int32)))]) [0, 2, 3, 4, 6, 12, 19, 21, 22, 23, 24, 25, 27, 28] rfl rfl ?_
          exact ih _ _ _ _ _ _ _ _ _ _ _ _ _ _ _ _ _ hf
        · refine zv_brF (off := 7) (tt := 760) (r := [.int p12]) zq_296 zo_296 (mt zl_eq.mp hc) rfl rfl rfl ?_
          refine zv_p (k := 6) (f' := (723, [(28, .int (p13 + (1 : Int32))), (27, .int (p12 &&& (1 : Int32))), (0, .ref p0), (2, .int p1), (3, .int p2), (4, .int p3), (6, .int p4), (12, .int p5), (19, .long p6), (21, .int p7), (22, .int p8), (23, .int p9), (24, .int p10), (25, .long p11)], [])) zq_296 zo_296 (by with_unfolding_all rfl) ?_
          refine zv_pick (lv' := [(0, .ref p0), (2, .int p1), (3, .int p2), (4, .int p3), (6, .int p4), (12, .int p5), (19, .long p6), (21, .int p7), (22, .int p8), (23, .int p9), (24, .int p10), (25, .long p11), (27, .int (p12 &&& (1 : Int32))), (28, .int (p13 + (1 : Int32)))]) [0, 2, 3, 4, 6, 12, 19, 21, 22, 23, 24, 25, 27, 28] rfl rfl ?_
          exact ih _ _ _ _ _ _ _ _ _ _ _ _ _ _ _ _ _ hf
set_option maxHeartbeats 1000000 in
def f_ColumnVaultLaw_isTold_696 (k638 : Nat → Int32 → Int32 → Int32 → Int32 → Int32 → Int64 → Int32 → Int32 → Int32 → Int32 → zx_H → Option ((Int32 ⊕ Nat) × zx_H)) (p0 : Nat) (p1 : Int32) (p2 : Int32) (p3 : Int32) (p4 : Int32) (p5 : Int32) (p6 : Int64) (p7 : Int32) (p8 : Int32) (p9 : Int32) (p10 : Int64) (p11 : Int32) (p12 : Int32) (h : zx_H) : Option ((Int32 ⊕ Nat) × zx_H) :=
  if ¬ p10 = p6 then
    f_ColumnVaultLaw_isTold_723 k638 zF p0 p1 p2 p3 p4 p5 p6 (p11 + p12) (p7 + (0 : Int32)) p8 p9 p10 (1 : Int32) (0 : Int32) h
  else
    f_ColumnVaultLaw_isTold_723 k638 zF p0 p1 p2 p3 p4 p5 p6 (p11 + p12) (p7 + (1 : Int32)) p8 p9 p10 (1 : Int32) (0 : Int32) h
set_option maxHeartbeats 4000000 in
set_option maxRecDepth 400000 in
theorem t_f_ColumnVaultLaw_isTold_696 {sc : (Nat × (Nat → Int32)) × Bool} {d : Nat} {k638 : Nat → Int32 → Int32 → Int32 → Int32 → Int32 → Int64 → Int32 → Int32 → Int32 → Int32 → zx_H → Option ((Int32 ⊕ Nat) × zx_H)} (hk638 : ∀ (a0 : Nat) (a1 : Int32) (a2 : Int32) (a3 : Int32) (a4 : Int32) (a5 : Int32) (a6 : Int64) (a7 : Int32) (a8 : Int32) (a9 : Int32) (a10 : Int32) (h : zx_H) (r : (Int32 ⊕ Nat)) (h' : zx_H), k638 a0 a1 a2 a3 a4 a5 a6 a7 a8 a9 a10 h = some (r, h') → zx_T sc (d + 125) 296 (638, [(0, .ref a0), (2, .int a1), (3, .int a2), (4, .int a3), (6, .int a4), (12, .int a5), (19, .long a6), (21, .int a7), (22, .int a8), (23, .int a9), (24, .int a10)], []) h (zf_oIx r) h') (p0 : Nat) (p1 : Int32) (p2 : Int32) (p3 : Int32) (p4 : Int32) (p5 : Int32) (p6 : Int64) (p7 : Int32) (p8 : Int32) (p9 : Int32) (p10 : Int64) (p11 : Int32) (p12 : Int32) (h : zx_H) (r : (Int32 ⊕ Nat)) (h' : zx_H) (hf : f_ColumnVaultLaw_isTold_696 k638 p0 p1 p2 p3 p4 p5 p6 p7 p8 p9 p10 p11 p12 h = some (r, h')) : zx_T sc (d + 125) 296 (696, [(0, .ref p0), (2, .int p1), (3, .int p2), (4, .int p3), (6, .int p4), (12, .int p5), (19, .long p6), (22, .int p7), (23, .int p8), (24, .int p9), (25, .long p10)], [.int p12, .int p11]) h (zf_oIx r) h' := by
  unfold f_ColumnVaultLaw_isTold_696 at hf
  refine zv_p (k := 6) (f' := (706, [(21, .int (p11 + p12)), (0, .ref p0), (2, .int p1), (3, .int p2), (4, .int p3), (6, .int p4), (12, .int p5), (19, .long p6), (22, .int p7), (23, .int p8), (24, .int p9), (25, .long p10)], [.int (lg_cmp p10 p6), .int p7])) zq_296 zo_296 (by with_unfolding_all rfl) ?_
  replace hf := zf_ite hf
  obtain ⟨hc, hf⟩ | ⟨hc, hf⟩ := hf
  · refine zv_brT (off := 7) (tt := 713) (r := [.int p7]) zq_296 zo_296 (zl_ne.mpr hc) rfl rfl rfl ?_
    refine zv_p (k := 7) (f' := (723, [(28, .int (0 : Int32)), (27, .int (1 : Int32)), (22, .int (p7 + (0 : Int32))), (21, .int (p11 + p12)), (0, .ref p0), (2, .int p1), (3, .int p2), (4, .int p3), (6, .int p4), (12, .int p5), (19, .long p6), (23, .int p8), (24, .int p9), (25, .long p10)], [])) zq_296 zo_296 (by with_unfolding_all rfl) ?_
    refine zv_pick (lv' := [(0, .ref p0), (2, .int p1), (3, .int p2), (4, .int p3), (6, .int p4), (12, .int p5), (19, .long p6), (21, .int (p11 + p12)), (22, .int (p7 + (0 : Int32))), (23, .int p8), (24, .int p9), (25, .long p10), (27, .int (1 : Int32)), (28, .int (0 : Int32))]) [0, 2, 3, 4, 6, 12, 19, 21, 22, 23, 24, 25, 27, 28] rfl rfl ?_
    exact t_f_ColumnVaultLaw_isTold_723 hk638 zF _ _ _ _ _ _ _ _ _ _ _ _ _ _ _ _ _ hf
  · refine zv_brF (off := 7) (tt := 713) (r := [.int p7]) zq_296 zo_296 (mt zl_ne.mp hc) rfl rfl rfl ?_
    refine zv_p (k := 8) (f' := (723, [(28, .int (0 : Int32)), (27, .int (1 : Int32)), (22, .int (p7 + (1 : Int32))), (21, .int (p11 + p12)), (0, .ref p0), (2, .int p1), (3, .int p2), (4, .int p3), (6, .int p4), (12, .int p5), (19, .long p6), (23, .int p8), (24, .int p9), (25, .long p10)], [])) zq_296 zo_296 (by with_unfolding_all rfl) ?_
    refine zv_pick (lv' := [(0, .ref p0), (2, .int p1), (3, .int p2), (4, .int p3), (6, .int p4), (12, .int p5), (19, .long p6), (21, .int (p11 + p12)), (22, .int (p7 + (1 : Int32))), (23, .int p8), (24, .int p9), (25, .long p10), (27, .int (1 : Int32)), (28, .int (0 : Int32))]) [0, 2, 3, 4, 6, 12, 19, 21, 22, 23, 24, 25, 27, 28] rfl rfl ?_
    exact t_f_ColumnVaultLaw_isTold_723 hk638 zF _ _ _ _ _ _ _ _ _ _ _ _ _ _ _ _ _ hf
set_option maxHeartbeats 1000000 in
def f_ColumnVaultLaw_isTold_638 : Nat → Nat → Int32 → Int32 → Int32 → Int32 → Int32 → Int64 → Int32 → Int32 → Int32 → Int32 → zx_H → Option ((Int32 ⊕ Nat) × zx_H)
  | 0, _, _, _, _, _, _, _, _, _, _, _, _ => none
  | n + 1, p0, p1, p2, p3, p4, p5, p6, p7, p8, p9, p10, h =>
    if p4 ≤ p10 then
      if ((p5 - (1 : Int32)) / (2 : Int32)) < p7 then
        some (.inl (0 : Int32), h)
      else
        if (p7 + p8) ≤ ((p5 - (1 : Int32)) / (2 : Int32)) then
          some (.inl (0 : Int32), h)
        else
          zf_b (zf_is 12 p0 h) fun _ =>
          zf_b3 (f_ColumnVault_total p0 p1 p2 (5 : Int32) h) fun v1 h2 =>
          if ¬ v1 = ((p9).toInt64) then
            some (.inl (0 : Int32), h2)
          else
            zf_b (zf_is 12 p0 h2) fun _ =>
            zf_b3 (f_ColumnVault_total p0 p1 p2 (2 : Int32) h2) fun v4 h5 =>
            zf_b2 (f_ColumnVaultLaw_than p3 v4 p6 h5) fun v7 h8 =>
            if 0 < v7 then
              some (.inl (0 : Int32), h8)
            else
              zf_b (zf_is 12 p0 h8) fun _ =>
              zf_b3 (f_ColumnVault_total p0 p1 p2 (3 : Int32) h8) fun v9 h10 =>
              zf_b2 (f_ColumnVaultLaw_than p3 v9 p6 h10) fun v12 h13 =>
              if v12 < 0 then
                some (.inl (0 : Int32), h13)
              else
                some (.inl (1 : Int32), h13)
    else
      zf_b (zf_is 12 p0 h) fun _ =>
      zf_b3 (f_ColumnVault_get p0 p1 p10 p2 h) fun v14 h15 =>
      zf_b (zf_is 12 p0 h15) fun _ =>
      zf_b3 (f_ColumnVault_isChosen p0 p1 p10 h15) fun v17 h18 =>
      if v17 = 0 then
        (f_ColumnVaultLaw_isTold_638 n) p0 p1 p2 p3 p4 p5 p6 p7 p8 p9 (p10 + (1 : Int32)) h18
      else
        if ¬ v14 = (-9000000000 : Int64) then
          zf_b2 (f_ColumnVaultLaw_than p3 v14 p6 h18) fun v20 h21 =>
          if 0 ≤ v20 then
            f_ColumnVaultLaw_isTold_696 (f_ColumnVaultLaw_isTold_638 n) p0 p1 p2 p3 p4 p5 p6 p8 p9 p10 v14 p7 (0 : Int32) h21
          else
            f_ColumnVaultLaw_isTold_696 (f_ColumnVaultLaw_isTold_638 n) p0 p1 p2 p3 p4 p5 p6 p8 p9 p10 v14 p7 (1 : Int32) h21
        else
          (f_ColumnVaultLaw_isTold_638 n) p0 p1 p2 p3 p4 p5 p6 p7 p8 p9 (p10 + (1 : Int32)) h18
set_option maxHeartbeats 4000000 in
set_option maxRecDepth 400000 in
theorem t_f_ColumnVaultLaw_isTold_638 {sc : (Nat × (Nat → Int32)) × Bool} {d : Nat} : ∀ (n : Nat) (p0 : Nat) (p1 : Int32) (p2 : Int32) (p3 : Int32) (p4 : Int32) (p5 : Int32) (p6 : Int64) (p7 : Int32) (p8 : Int32) (p9 : Int32) (p10 : Int32) (h : zx_H) (r : (Int32 ⊕ Nat)) (h' : zx_H), f_ColumnVaultLaw_isTold_638 n p0 p1 p2 p3 p4 p5 p6 p7 p8 p9 p10 h = some (r, h') → zx_T sc (d + 125) 296 (638, [(0, .ref p0), (2, .int p1), (3, .int p2), (4, .int p3), (6, .int p4), (12, .int p5), (19, .long p6), (21, .int p7), (22, .int p8), (23, .int p9), (24, .int p10)], []) h (zf_oIx r) h' := by
  intro n
  induction n with
  | zero => intro p0 p1 p2 p3 p4 p5 p6 p7 p8 p9 p10 h r h' hf; cases hf
  | succ n ih =>
    intro p0 p1 p2 p3 p4 p5 p6 p7 p8 p9 p10 h r h' hf
    unfold f_ColumnVaultLaw_isTold_638 at hf
    refine zv_p (k := 2) (f' := (642, [(0, .ref p0), (2, .int p1), (3, .int p2), (4, .int p3), (6, .int p4), (12, .int p5), (19, .long p6), (21, .int p7), (22, .int p8), (23, .int p9), (24, .int p10)], [.int p4, .int p10])) zq_296 zo_296 (by with_unfolding_all rfl) ?_
    replace hf := zf_ite hf
    obtain ⟨hc, hf⟩ | ⟨hc, hf⟩ := hf
    · refine zv_brT (off := 149) (tt := 791) (r := []) zq_296 zo_296 hc rfl rfl rfl ?_
      refine zv_p (k := 6) (f' := (799, [(0, .ref p0), (2, .int p1), (3, .int p2), (4, .int p3), (6, .int p4), (12, .int p5), (19, .long p6), (21, .int p7), (22, .int p8), (23, .int p9), (24, .int p10)], [.int ((p5 - (1 : Int32)) / (2 : Int32)), .int p7])) zq_296 zo_296 (by with_unfolding_all rfl) ?_
      replace hf := zf_ite hf
      obtain ⟨hc, hf⟩ | ⟨hc, hf⟩ := hf
      · refine zv_brT (off := 69) (tt := 868) (r := []) zq_296 zo_296 hc rfl rfl rfl ?_
        refine zv_p (k := 1) (f' := (869, [(0, .ref p0), (2, .int p1), (3, .int p2), (4, .int p3), (6, .int p4), (12, .int p5), (19, .long p6), (21, .int p7), (22, .int p8), (23, .int p9), (24, .int p10)], [.int (0 : Int32)])) zq_296 zo_296 (by with_unfolding_all rfl) ?_
        cases hf
        exact zv_rn zq_296 zo_296 rfl rfl
      · refine zv_brF (off := 69) (tt := 868) (r := []) zq_296 zo_296 hc rfl rfl rfl ?_
        refine zv_p (k := 8) (f' := (813, [(0, .ref p0), (2, .int p1), (3, .int p2), (4, .int p3), (6, .int p4), (12, .int p5), (19, .long p6), (21, .int p7), (22, .int p8), (23, .int p9), (24, .int p10)], [.int ((p5 - (1 : Int32)) / (2 : Int32)), .int (p7 + p8)])) zq_296 zo_296 (by with_unfolding_all rfl) ?_
        replace hf := zf_ite hf
        obtain ⟨hc, hf⟩ | ⟨hc, hf⟩ := hf
        · refine zv_brT (off := 55) (tt := 868) (r := []) zq_296 zo_296 hc rfl rfl rfl ?_
          refine zv_p (k := 1) (f' := (869, [(0, .ref p0), (2, .int p1), (3, .int p2), (4, .int p3), (6, .int p4), (12, .int p5), (19, .long p6), (21, .int p7), (22, .int p8), (23, .int p9), (24, .int p10)], [.int (0 : Int32)])) zq_296 zo_296 (by with_unfolding_all rfl) ?_
          cases hf
          exact zv_rn zq_296 zo_296 rfl rfl
        · refine zv_brF (off := 55) (tt := 868) (r := []) zq_296 zo_296 hc rfl rfl rfl ?_
          refine zv_p (k := 4) (f' := (820, [(0, .ref p0), (2, .int p1), (3, .int p2), (4, .int p3), (6, .int p4), (12, .int p5), (19, .long p6), (21, .int p7), (22, .int p8), (23, .int p9), (24, .int p10)], [.int (5 : Int32), .int p2, .int p1, .ref p0])) zq_296 zo_296 (by with_unfolding_all rfl) ?_
          replace hf := zf_be hf
          obtain ⟨_, ho, hf⟩ := hf
          replace hf := zf_b3e hf
          obtain ⟨v1, h2, hv, hf⟩ | ⟨E3, h2, hv, hf⟩ := hf
          rotate_left
          · cases hf; exact zv_cx zq_296 zo_296 rfl rfl rfl rfl rfl (zv_cv rfl rfl rfl (zf_ise ho) rfl) (t_f_ColumnVault_total _ _ _ _ _ _ _ hv) rfl
          refine zv_c zq_296 zo_296 rfl rfl rfl rfl rfl (zv_cv rfl rfl rfl (zf_ise ho) rfl) (t_f_ColumnVault_total _ _ _ _ _ _ _ hv) ?_
          refine zv_p (k := 3) (f' := (827, [(0, .ref p0), (2, .int p1), (3, .int p2), (4, .int p3), (6, .int p4), (12, .int p5), (19, .long p6), (21, .int p7), (22, .int p8), (23, .int p9), (24, .int p10)], [.int (lg_cmp v1 ((p9).toInt64))])) zq_296 zo_296 (by with_unfolding_all rfl) ?_
          replace hf := zf_ite hf
          obtain ⟨hc, hf⟩ | ⟨hc, hf⟩ := hf
          · refine zv_brT (off := 41) (tt := 868) (r := []) zq_296 zo_296 (zl_ne.mpr hc) rfl rfl rfl ?_
            refine zv_p (k := 1) (f' := (869, [(0, .ref p0), (2, .int p1), (3, .int p2), (4, .int p3), (6, .int p4), (12, .int p5), (19, .long p6), (21, .int p7), (22, .int p8), (23, .int p9), (24, .int p10)], [.int (0 : Int32)])) zq_296 zo_296 (by with_unfolding_all rfl) ?_
            cases hf
            exact zv_rn zq_296 zo_296 rfl rfl
          · refine zv_brF (off := 41) (tt := 868) (r := []) zq_296 zo_296 (mt zl_ne.mp hc) rfl rfl rfl ?_
            refine zv_p (k := 5) (f' := (836, [(0, .ref p0), (2, .int p1), (3, .int p2), (4, .int p3), (6, .int p4), (12, .int p5), (19, .long p6), (21, .int p7), (22, .int p8), (23, .int p9), (24, .int p10)], [.int (2 : Int32), .int p2, .int p1, .ref p0, .int p3])) zq_296 zo_296 (by with_unfolding_all rfl) ?_
            replace hf := zf_be hf
            obtain ⟨_, ho, hf⟩ := hf
            replace hf := zf_b3e hf
            obtain ⟨v4, h5, hv, hf⟩ | ⟨E6, h5, hv, hf⟩ := hf
            rotate_left
            · cases hf; exact zv_cx zq_296 zo_296 rfl rfl rfl rfl rfl (zv_cv rfl rfl rfl (zf_ise ho) rfl) (t_f_ColumnVault_total _ _ _ _ _ _ _ hv) rfl
            refine zv_c zq_296 zo_296 rfl rfl rfl rfl rfl (zv_cv rfl rfl rfl (zf_ise ho) rfl) (t_f_ColumnVault_total _ _ _ _ _ _ _ hv) ?_
            refine zv_p (k := 1) (f' := (841, [(0, .ref p0), (2, .int p1), (3, .int p2), (4, .int p3), (6, .int p4), (12, .int p5), (19, .long p6), (21, .int p7), (22, .int p8), (23, .int p9), (24, .int p10)], [.long p6, .long v4, .int p3])) zq_296 zo_296 (by with_unfolding_all rfl) ?_
            replace hf := zf_b2e hf
            obtain ⟨v7, h8, hv, hf⟩ := hf
            refine zv_c zq_296 zo_296 rfl rfl rfl rfl rfl rfl (t_f_ColumnVaultLaw_than _ _ _ _ _ _ hv) ?_
            replace hf := zf_ite hf
            obtain ⟨hc, hf⟩ | ⟨hc, hf⟩ := hf
            · refine zv_brT (off := 24) (tt := 868) (r := []) zq_296 zo_296 hc rfl rfl rfl ?_
              refine zv_p (k := 1) (f' := (869, [(0, .ref p0), (2, .int p1), (3, .int p2), (4, .int p3), (6, .int p4), (12, .int p5), (19, .long p6), (21, .int p7), (22, .int p8), (23, .int p9), (24, .int p10)], [.int (0 : Int32)])) zq_296 zo_296 (by with_unfolding_all rfl) ?_
              cases hf
              exact zv_rn zq_296 zo_296 rfl rfl
            · refine zv_brF (off := 24) (tt := 868) (r := []) zq_296 zo_296 hc rfl rfl rfl ?_
              refine zv_p (k := 5) (f' := (853, [(0, .ref p0), (2, .int p1), (3, .int p2), (4, .int p3), (6, .int p4), (12, .int p5), (19, .long p6), (21, .int p7), (22, .int p8), (23, .int p9), (24, .int p10)], [.int (3 : Int32), .int p2, .int p1, .ref p0, .int p3])) zq_296 zo_296 (by with_unfolding_all rfl) ?_
              replace hf := zf_be hf
              obtain ⟨_, ho, hf⟩ := hf
              replace hf := zf_b3e hf
              obtain ⟨v9, h10, hv, hf⟩ | ⟨E11, h10, hv, hf⟩ := hf
              rotate_left
              · cases hf; exact zv_cx zq_296 zo_296 rfl rfl rfl rfl rfl (zv_cv rfl rfl rfl (zf_ise ho) rfl) (t_f_ColumnVault_total _ _ _ _ _ _ _ hv) rfl
              refine zv_c zq_296 zo_296 rfl rfl rfl rfl rfl (zv_cv rfl rfl rfl (zf_ise ho) rfl) (t_f_ColumnVault_total _ _ _ _ _ _ _ hv) ?_
              refine zv_p (k := 1) (f' := (858, [(0, .ref p0), (2, .int p1), (3, .int p2), (4, .int p3), (6, .int p4), (12, .int p5), (19, .long p6), (21, .int p7), (22, .int p8), (23, .int p9), (24, .int p10)], [.long p6, .long v9, .int p3])) zq_296 zo_296 (by with_unfolding_all rfl) ?_
              replace hf := zf_b2e hf
              obtain ⟨v12, h13, hv, hf⟩ := hf
              refine zv_c zq_296 zo_296 rfl rfl rfl rfl rfl rfl (t_f_ColumnVaultLaw_than _ _ _ _ _ _ hv) ?_
              replace hf := zf_ite hf
              obtain ⟨hc, hf⟩ | ⟨hc, hf⟩ := hf
              · refine zv_brT (off := 7) (tt := 868) (r := []) zq_296 zo_296 hc rfl rfl rfl ?_
                refine zv_p (k := 1) (f' := (869, [(0, .ref p0), (2, .int p1), (3, .int p2), (4, .int p3), (6, .int p4), (12, .int p5), (19, .long p6), (21, .int p7), (22, .int p8), (23, .int p9), (24, .int p10)], [.int (0 : Int32)])) zq_296 zo_296 (by with_unfolding_all rfl) ?_
                cases hf
                exact zv_rn zq_296 zo_296 rfl rfl
              · refine zv_brF (off := 7) (tt := 868) (r := []) zq_296 zo_296 hc rfl rfl rfl ?_
                refine zv_p (k := 2) (f' := (869, [(0, .ref p0), (2, .int p1), (3, .int p2), (4, .int p3), (6, .int p4), (12, .int p5), (19, .long p6), (21, .int p7), (22, .int p8), (23, .int p9), (24, .int p10)], [.int (1 : Int32)])) zq_296 zo_296 (by with_unfolding_all rfl) ?_
                cases hf
                exact zv_rn zq_296 zo_296 rfl rfl
    · refine zv_brF (off := 149) (tt := 791) (r := []) zq_296 zo_296 hc rfl rfl rfl ?_
      refine zv_p (k := 4) (f' := (650, [(0, .ref p0), (2, .int p1), (3, .int p2), (4, .int p3), (6, .int p4), (12, .int p5), (19, .long p6), (21, .int p7), (22, .int p8), (23, .int p9), (24, .int p10)], [.int p2, .int p10, .int p1, .ref p0])) zq_296 zo_296 (by with_unfolding_all rfl) ?_
      replace hf := zf_be hf
      obtain ⟨_, ho, hf⟩ := hf
      replace hf := zf_b3e hf
      obtain ⟨v14, h15, hv, hf⟩ | ⟨E16, h15, hv, hf⟩ := hf
      rotate_left
      · cases hf; exact zv_cx zq_296 zo_296 rfl rfl rfl rfl rfl (zv_cv rfl rfl rfl (zf_ise ho) rfl) (t_f_ColumnVault_get _ _ _ _ _ _ _ hv) rfl
      refine zv_c zq_296 zo_296 rfl rfl rfl rfl rfl (zv_cv rfl rfl rfl (zf_ise ho) rfl) (t_f_ColumnVault_get _ _ _ _ _ _ _ hv) ?_
      refine zv_p (k := 4) (f' := (659, [(25, .long v14), (0, .ref p0), (2, .int p1), (3, .int p2), (4, .int p3), (6, .int p4), (12, .int p5), (19, .long p6), (21, .int p7), (22, .int p8), (23, .int p9), (24, .int p10)], [.int p10, .int p1, .ref p0])) zq_296 zo_296 (by with_unfolding_all rfl) ?_
      replace hf := zf_be hf
      obtain ⟨_, ho, hf⟩ := hf
      replace hf := zf_b3e hf
      obtain ⟨v17, h18, hv, hf⟩ | ⟨E19, h18, hv, hf⟩ := hf
      rotate_left
      · cases hf; exact zv_cx zq_296 zo_296 rfl rfl rfl rfl rfl (zv_cv rfl rfl rfl (zf_ise ho) rfl) (t_f_ColumnVault_isChosen _ _ _ _ _ _ hv) rfl
      refine zv_c zq_296 zo_296 rfl rfl rfl rfl rfl (zv_cv rfl rfl rfl (zf_ise ho) rfl) (t_f_ColumnVault_isChosen _ _ _ _ _ _ hv) ?_
      replace hf := zf_ite hf
      obtain ⟨hc, hf⟩ | ⟨hc, hf⟩ := hf
      · refine zv_brT (off := 123) (tt := 785) (r := []) zq_296 zo_296 hc rfl rfl rfl ?_
        refine zv_p (k := 2) (f' := (638, [(24, .int (p10 + (1 : Int32))), (25, .long v14), (0, .ref p0), (2, .int p1), (3, .int p2), (4, .int p3), (6, .int p4), (12, .int p5), (19, .long p6), (21, .int p7), (22, .int p8), (23, .int p9)], [])) zq_296 zo_296 (by with_unfolding_all rfl) ?_
        refine zv_pick (lv' := [(0, .ref p0), (2, .int p1), (3, .int p2), (4, .int p3), (6, .int p4), (12, .int p5), (19, .long p6), (21, .int p7), (22, .int p8), (23, .int p9), (24, .int (p10 + (1 : Int32)))]) [0, 2, 3, 4, 6, 12, 19, 21, 22, 23, 24] rfl rfl ?_
        exact ih _ _ _ _ _ _ _ _ _ _ _ _ _ _ hf
      · refine zv_brF (off := 123) (tt := 785) (r := []) zq_296 zo_296 hc rfl rfl rfl ?_
        refine zv_p (k := 1) (f' := (667, [(25, .long v14), (0, .ref p0), (2, .int p1), (3, .int p2), (4, .int p3), (6, .int p4), (12, .int p5), (19, .long p6), (21, .int p7), (22, .int p8), (23, .int p9), (24, .int p10)], [.long v14])) zq_296 zo_296 (by with_unfolding_all rfl) ?_
        refine zv_lng zq_296 zo_296 rfl rfl ?_
        refine zv_p (k := 1) (f' := (671, [(25, .long v14), (0, .ref p0), (2, .int p1), (3, .int p2), (4, .int p3), (6, .int p4), (12, .int p5), (19, .long p6), (21, .int p7), (22, .int p8), (23, .int p9), (24, .int p10)], [.int (lg_cmp v14 (-9000000000 : Int64))])) zq_296 zo_296 (by with_unfolding_all rfl) ?_
        replace hf := zf_ite hf
        obtain ⟨hc, hf⟩ | ⟨hc, hf⟩ := hf
        · refine zv_brT (off := 6) (tt := 677) (r := []) zq_296 zo_296 (zl_ne.mpr hc) rfl rfl rfl ?_
          refine zv_p (k := 4) (f' := (685, [(25, .long v14), (0, .ref p0), (2, .int p1), (3, .int p2), (4, .int p3), (6, .int p4), (12, .int p5), (19, .long p6), (21, .int p7), (22, .int p8), (23, .int p9), (24, .int p10)], [.long p6, .long v14, .int p3, .int p7])) zq_296 zo_296 (by with_unfolding_all rfl) ?_
          replace hf := zf_b2e hf
          obtain ⟨v20, h21, hv, hf⟩ := hf
          refine zv_c zq_296 zo_296 rfl rfl rfl rfl rfl rfl (t_f_ColumnVaultLaw_than _ _ _ _ _ _ hv) ?_
          replace hf := zf_ite hf
          obtain ⟨hc, hf⟩ | ⟨hc, hf⟩ := hf
          · refine zv_brT (off := 7) (tt := 695) (r := [.int p7]) zq_296 zo_296 hc rfl rfl rfl ?_
            refine zv_p (k := 1) (f' := (696, [(25, .long v14), (0, .ref p0), (2, .int p1), (3, .int p2), (4, .int p3), (6, .int p4), (12, .int p5), (19, .long p6), (21, .int p7), (22, .int p8), (23, .int p9), (24, .int p10)], [.int (0 : Int32), .int p7])) zq_296 zo_296 (by with_unfolding_all rfl) ?_
            refine zv_pick (lv' := [(0, .ref p0), (2, .int p1), (3, .int p2), (4, .int p3), (6, .int p4), (12, .int p5), (19, .long p6), (22, .int p8), (23, .int p9), (24, .int p10), (25, .long v14)]) [0, 2, 3, 4, 6, 12, 19, 22, 23, 24, 25] rfl rfl ?_
            exact t_f_ColumnVaultLaw_isTold_696 ih _ _ _ _ _ _ _ _ _ _ _ _ _ _ _ _ hf
          · refine zv_brF (off := 7) (tt := 695) (r := [.int p7]) zq_296 zo_296 hc rfl rfl rfl ?_
            refine zv_p (k := 2) (f' := (696, [(25, .long v14), (0, .ref p0), (2, .int p1), (3, .int p2), (4, .int p3), (6, .int p4), (12, .int p5), (19, .long p6), (21, .int p7), (22, .int p8), (23, .int p9), (24, .int p10)], [.int (1 : Int32), .int p7])) zq_296 zo_296 (by with_unfolding_all rfl) ?_
            refine zv_pick (lv' := [(0, .ref p0), (2, .int p1), (3, .int p2), (4, .int p3), (6, .int p4), (12, .int p5), (19, .long p6), (22, .int p8), (23, .int p9), (24, .int p10), (25, .long v14)]) [0, 2, 3, 4, 6, 12, 19, 22, 23, 24, 25] rfl rfl ?_
            exact t_f_ColumnVaultLaw_isTold_696 ih _ _ _ _ _ _ _ _ _ _ _ _ _ _ _ _ hf
        · refine zv_brF (off := 6) (tt := 677) (r := []) zq_296 zo_296 (mt zl_ne.mp hc) rfl rfl rfl ?_
          refine zv_p (k := 3) (f' := (638, [(24, .int (p10 + (1 : Int32))), (25, .long v14), (0, .ref p0), (2, .int p1), (3, .int p2), (4, .int p3), (6, .int p4), (12, .int p5), (19, .long p6), (21, .int p7), (22, .int p8), (23, .int p9)], [])) zq_296 zo_296 (by with_unfolding_all rfl) ?_
          refine zv_pick (lv' := [(0, .ref p0), (2, .int p1), (3, .int p2), (4, .int p3), (6, .int p4), (12, .int p5), (19, .long p6), (21, .int p7), (22, .int p8), (23, .int p9), (24, .int (p10 + (1 : Int32)))]) [0, 2, 3, 4, 6, 12, 19, 21, 22, 23, 24] rfl rfl ?_
          exact ih _ _ _ _ _ _ _ _ _ _ _ _ _ _ hf
