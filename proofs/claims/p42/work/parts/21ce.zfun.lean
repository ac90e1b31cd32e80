set_option maxHeartbeats 1000000 in
def f_ColumnVaultLaw_isTold_125 (k90 : Nat → Int32 → Int32 → Int32 → Int32 → Int32 → Int64 → Int64 → Int32 → Int32 → Int64 → Int64 → Int64 → Int32 → zx_H → Option ((Int32 ⊕ Nat) × zx_H)) : Nat → Nat → Int32 → Int32 → Int32 → Int32 → Int32 → Int64 → Int64 → Int32 → Int32 → Int64 → Int64 → Int64 → Int32 → Int32 → Int64 → Int32 → Int32 → Int32 → zx_H → Option ((Int32 ⊕ Nat) × zx_H)
  | 0, _, _, _, _, _, _, _, _, _, _, _, _, _, _, _, _, _, _, _, _ => none
  | n + 1, p0, p1, p2, p3, p4, p5, p6, p7, p8, p9, p10, p11, p12, p13, p14, p15, p16, p17, p18, h =>
    if p5 ≤ p18 then
      zf_b (zf_is 12 p0 h) fun _ =>
      zf_b3 (f_ColumnVault_previous p0 p1 p4 p14 h) fun v1 h2 =>
      if ¬ v1 = p17 then
        some (.inl (0 : Int32), h2)
      else
        if ¬ p15 = (-9000000000 : Int64) then
          zf_b (zf_is 12 p0 h2) fun _ =>
          zf_b3 (f_ColumnVault_rank p0 p1 p4 p2 p14 h2) fun v4 h5 =>
          if v4 = p16 then
            if ¬ p3 = 0 then
              f_ColumnVaultLaw_isTold_357 k90 p0 p1 p2 p3 p4 p5 p6 p7 p8 p9 p10 p11 p12 p13 p14 p15 h5
            else
              if ¬ p15 = (-9000000000 : Int64) then
                f_ColumnVaultLaw_isTold_338 k90 p0 p1 p2 p3 p4 p5 p6 p7 p8 p9 p10 p11 p13 p14 p15 p12 p15 h5
              else
                f_ColumnVaultLaw_isTold_338 k90 p0 p1 p2 p3 p4 p5 p6 p7 p8 p9 p10 p11 p13 p14 p15 p12 (0 : Int64) h5
          else
            some (.inl (0 : Int32), h5)
        else
          if ¬ p4 = p2 then
            if ¬ p3 = 0 then
              f_ColumnVaultLaw_isTold_357 k90 p0 p1 p2 p3 p4 p5 p6 p7 p8 p9 p10 p11 p12 p13 p14 p15 h2
            else
              if ¬ p15 = (-9000000000 : Int64) then
                f_ColumnVaultLaw_isTold_338 k90 p0 p1 p2 p3 p4 p5 p6 p7 p8 p9 p10 p11 p13 p14 p15 p12 p15 h2
              else
                f_ColumnVaultLaw_isTold_338 k90 p0 p1 p2 p3 p4 p5 p6 p7 p8 p9 p10 p11 p13 p14 p15 p12 (0 : Int64) h2
          else
            zf_b2 (f_ColumnVaultLaw_asks p0 (13 : Int32) p1 p2 ((p14).toInt64) h2) fun v7 h8 =>
            if v7 = (-3000000002 : Int64) then
              if ¬ p3 = 0 then
                f_ColumnVaultLaw_isTold_357 k90 p0 p1 p2 p3 p4 p5 p6 p7 p8 p9 p10 p11 p12 p13 p14 p15 h8
              else
                if ¬ p15 = (-9000000000 : Int64) then
                  f_ColumnVaultLaw_isTold_338 k90 p0 p1 p2 p3 p4 p5 p6 p7 p8 p9 p10 p11 p13 p14 p15 p12 p15 h8
                else
                  f_ColumnVaultLaw_isTold_338 k90 p0 p1 p2 p3 p4 p5 p6 p7 p8 p9 p10 p11 p13 p14 p15 p12 (0 : Int64) h8
            else
              some (.inl (0 : Int32), h8)
    else
      zf_b (zf_is 12 p0 h) fun _ =>
      zf_b3 (f_ColumnVault_rowAt p0 p1 p18 h) fun v9 h10 =>
      zf_b (zf_is 12 p0 h10) fun _ =>
      zf_b3 (f_ColumnVault_get p0 p1 v9 p4 h10) fun v12 h13 =>
      zf_b (zf_is 12 p0 h13) fun _ =>
      zf_b3 (f_ColumnVault_get p0 p1 p14 p4 h13) fun v15 h16 =>
      if ¬ v12 = v15 then
        if p13 ≤ p18 then
          f_ColumnVaultLaw_isTold_186 k90 (f_ColumnVaultLaw_isTold_125 k90 n) p0 p1 p2 p3 p4 p5 p6 p7 p8 p9 p10 p11 p12 p13 p14 p15 p16 p17 p18 v9 (0 : Int32) h16
        else
          if (0 : Int32) = 0 then
            f_ColumnVaultLaw_isTold_186 k90 (f_ColumnVaultLaw_isTold_125 k90 n) p0 p1 p2 p3 p4 p5 p6 p7 p8 p9 p10 p11 p12 p13 p14 p15 p16 p17 p18 v9 (0 : Int32) h16
          else
            f_ColumnVaultLaw_isTold_186 k90 (f_ColumnVaultLaw_isTold_125 k90 n) p0 p1 p2 p3 p4 p5 p6 p7 p8 p9 p10 p11 p12 p13 p14 p15 p16 v9 p18 v9 (0 : Int32) h16
      else
        if p13 ≤ p18 then
          f_ColumnVaultLaw_isTold_186 k90 (f_ColumnVaultLaw_isTold_125 k90 n) p0 p1 p2 p3 p4 p5 p6 p7 p8 p9 p10 p11 p12 p13 p14 p15 p16 p17 p18 v9 (1 : Int32) h16
        else
          if (1 : Int32) = 0 then
            f_ColumnVaultLaw_isTold_186 k90 (f_ColumnVaultLaw_isTold_125 k90 n) p0 p1 p2 p3 p4 p5 p6 p7 p8 p9 p10 p11 p12 p13 p14 p15 p16 p17 p18 v9 (1 : Int32) h16
          else
            f_ColumnVaultLaw_isTold_186 k90 (f_ColumnVaultLaw_isTold_125 k90 n) p0 p1 p2 p3 p4 p5 p6 p7 p8 p9 p10 p11 p12 p13 p14 p15 p16 v9 p18 v9 (1 : Int32) h16
set_option maxHeartbeats 4000000 in
set_option maxRecDepth 400000 in
theorem t_f_ColumnVaultLaw_isTold_125 {sc : (Nat × (Nat → Int32)) × Bool} {d : Nat} {k90 : Nat → Int32 → Int32 → Int32 → Int32 → Int32 → Int64 → Int64 → Int32 → Int32 → Int64 → Int64 → Int64 → Int32 → zx_H → Option ((Int32 ⊕ Nat) × zx_H)} (hk90 : ∀ (a0 : Nat) (a1 : Int32) (a2 : Int32) (a3 : Int32) (a4 : Int32) (a5 : Int32) (a6 : Int64) (a7 : Int64) (a8 : Int32) (a9 : Int32) (a10 : Int64) (a11 : Int64) (a12 : Int64) (a13 : Int32) (h : zx_H) (r : (Int32 ⊕ Nat)) (h' : zx_H), k90 a0 a1 a2 a3 a4 a5 a6 a7 a8 a9 a10 a11 a12 a13 h = some (r, h') → zx_T sc (d + 125) 296 (90, [(0, .ref a0), (2, .int a1), (3, .int a2), (4, .int a3), (5, .int a4), (6, .int a5), (7, .long a6), (9, .long a7), (11, .int a8), (12, .int a9), (13, .long a10), (15, .long a11), (17, .long a12), (19, .int a13)], []) h (zf_oIx r) h') : ∀ (n : Nat) (p0 : Nat) (p1 : Int32) (p2 : Int32) (p3 : Int32) (p4 : Int32) (p5 : Int32) (p6 : Int64) (p7 : Int64) (p8 : Int32) (p9 : Int32) (p10 : Int64) (p11 : Int64) (p12 : Int64) (p13 : Int32) (p14 : Int32) (p15 : Int64) (p16 : Int32) (p17 : Int32) (p18 : Int32) (h : zx_H) (r : (Int32 ⊕ Nat)) (h' : zx_H), f_ColumnVaultLaw_isTold_125 k90 n p0 p1 p2 p3 p4 p5 p6 p7 p8 p9 p10 p11 p12 p13 p14 p15 p16 p17 p18 h = some (r, h') → zx_T sc (d + 125) 296 (125, [(0, .ref p0), (2, .int p1), (3, .int p2), (4, .int p3), (5, .int p4), (6, .int p5), (7, .long p6), (9, .long p7), (11, .int p8), (12, .int p9), (13, .long p10), (15, .long p11), (17, .long p12), (19, .int p13), (20, .int p14), (21, .long p15), (23, .int p16), (24, .int p17), (25, .int p18)], []) h (zf_oIx r) h' := by
  intro n
  induction n with
  | zero => intro p0 p1 p2 p3 p4 p5 p6 p7 p8 p9 p10 p11 p12 p13 p14 p15 p16 p17 p18 h r h' hf; cases hf
  | succ n ih =>
    intro p0 p1 p2 p3 p4 p5 p6 p7 p8 p9 p10 p11 p12 p13 p14 p15 p16 p17 p18 h r h' hf
    unfold f_ColumnVaultLaw_isTold_125 at hf
    refine zv_p (k := 2) (f' := (129, [(0, .ref p0), (2, .int p1), (3, .int p2), (4, .int p3), (5, .int p4), (6, .int p5), (7, .long p6), (9, .long p7), (11, .int p8), (12, .int p9), (13, .long p10), (15, .long p11), (17, .long p12), (19, .int p13), (20, .int p14), (21, .long p15), (23, .int p16), (24, .int p17), (25, .int p18)], [.int p5, .int p18])) zq_296 zo_296 (by with_unfolding_all rfl) ?_
    replace hf := zf_ite hf
    obtain ⟨hc, hf⟩ | ⟨hc, hf⟩ := hf
    · refine zv_brT (off := 120) (tt := 249) (r := []) zq_296 zo_296 hc rfl rfl rfl ?_
      refine zv_p (k := 4) (f' := (255, [(0, .ref p0), (2, .int p1), (3, .int p2), (4, .int p3), (5, .int p4), (6, .int p5), (7, .long p6), (9, .long p7), (11, .int p8), (12, .int p9), (13, .long p10), (15, .long p11), (17, .long p12), (19, .int p13), (20, .int p14), (21, .long p15), (23, .int p16), (24, .int p17), (25, .int p18)], [.int p14, .int p4, .int p1, .ref p0])) zq_296 zo_296 (by with_unfolding_all rfl) ?_
      replace hf := zf_be hf
      obtain ⟨_, ho, hf⟩ := hf
      replace hf := zf_b3e hf
      obtain ⟨v1, h2, hv, hf⟩ | ⟨E3, h2, hv, hf⟩ := hf
      rotate_left
      · cases hf; exact zv_cx zq_296 zo_296 rfl rfl rfl rfl rfl (zv_cv rfl rfl rfl (zf_ise ho) rfl) (t_f_ColumnVault_previous _ _ _ _ _ _ _ hv) rfl
      refine zv_c zq_296 zo_296 rfl rfl rfl rfl rfl (zv_cv rfl rfl rfl (zf_ise ho) rfl) (t_f_ColumnVault_previous _ _ _ _ _ _ _ hv) ?_
      refine zv_p (k := 1) (f' := (260, [(0, .ref p0), (2, .int p1), (3, .int p2), (4, .int p3), (5, .int p4), (6, .int p5), (7, .long p6), (9, .long p7), (11, .int p8), (12, .int p9), (13, .long p10), (15, .long p11), (17, .long p12), (19, .int p13), (20, .int p14), (21, .long p15), (23, .int p16), (24, .int p17), (25, .int p18)], [.int p17, .int v1])) zq_296 zo_296 (by with_unfolding_all rfl) ?_
      replace hf := zf_ite hf
      obtain ⟨hc, hf⟩ | ⟨hc, hf⟩ := hf
      · refine zv_brT (off := 54) (tt := 314) (r := []) zq_296 zo_296 hc rfl rfl rfl ?_
        refine zv_p (k := 1) (f' := (315, [(0, .ref p0), (2, .int p1), (3, .int p2), (4, .int p3), (5, .int p4), (6, .int p5), (7, .long p6), (9, .long p7), (11, .int p8), (12, .int p9), (13, .long p10), (15, .long p11), (17, .long p12), (19, .int p13), (20, .int p14), (21, .long p15), (23, .int p16), (24, .int p17), (25, .int p18)], [.int (0 : Int32)])) zq_296 zo_296 (by with_unfolding_all rfl) ?_
        cases hf
        exact zv_rn zq_296 zo_296 rfl rfl
      · refine zv_brF (off := 54) (tt := 314) (r := []) zq_296 zo_296 hc rfl rfl rfl ?_
        refine zv_p (k := 1) (f' := (265, [(0, .ref p0), (2, .int p1), (3, .int p2), (4, .int p3), (5, .int p4), (6, .int p5), (7, .long p6), (9, .long p7), (11, .int p8), (12, .int p9), (13, .long p10), (15, .long p11), (17, .long p12), (19, .int p13), (20, .int p14), (21, .long p15), (23, .int p16), (24, .int p17), (25, .int p18)], [.long p15])) zq_296 zo_296 (by with_unfolding_all rfl) ?_
        refine zv_lng zq_296 zo_296 rfl rfl ?_
        refine zv_p (k := 1) (f' := (269, [(0, .ref p0), (2, .int p1), (3, .int p2), (4, .int p3), (5, .int p4), (6, .int p5), (7, .long p6), (9, .long p7), (11, .int p8), (12, .int p9), (13, .long p10), (15, .long p11), (17, .long p12), (19, .int p13), (20, .int p14), (21, .long p15), (23, .int p16), (24, .int p17), (25, .int p18)], [.int (lg_cmp p15 (-9000000000 : Int64))])) zq_296 zo_296 (by with_unfolding_all rfl) ?_
        replace hf := zf_ite hf
        obtain ⟨hc, hf⟩ | ⟨hc, hf⟩ := hf
        · refine zv_brT (off := 30) (tt := 299) (r := []) zq_296 zo_296 (zl_ne.mpr hc) rfl rfl rfl ?_
          refine zv_p (k := 5) (f' := (306, [(0, .ref p0), (2, .int p1), (3, .int p2), (4, .int p3), (5, .int p4), (6, .int p5), (7, .long p6), (9, .long p7), (11, .int p8), (12, .int p9), (13, .long p10), (15, .long p11), (17, .long p12), (19, .int p13), (20, .int p14), (21, .long p15), (23, .int p16), (24, .int p17), (25, .int p18)], [.int p14, .int p2, .int p4, .int p1, .ref p0])) zq_296 zo_296 (by with_unfolding_all rfl) ?_
          replace hf := zf_be hf
          obtain ⟨_, ho, hf⟩ := hf
          replace hf := zf_b3e hf
          obtain ⟨v4, h5, hv, hf⟩ | ⟨E6, h5, hv, hf⟩ := hf
          rotate_left
          · cases hf; exact zv_cx zq_296 zo_296 rfl rfl rfl rfl rfl (zv_cv rfl rfl rfl (zf_ise ho) rfl) (t_f_ColumnVault_rank _ _ _ _ _ _ _ _ hv) rfl
          refine zv_c zq_296 zo_296 rfl rfl rfl rfl rfl (zv_cv rfl rfl rfl (zf_ise ho) rfl) (t_f_ColumnVault_rank _ _ _ _ _ _ _ _ hv) ?_
          refine zv_p (k := 1) (f' := (311, [(0, .ref p0), (2, .int p1), (3, .int p2), (4, .int p3), (5, .int p4), (6, .int p5), (7, .long p6), (9, .long p7), (11, .int p8), (12, .int p9), (13, .long p10), (15, .long p11), (17, .long p12), (19, .int p13), (20, .int p14), (21, .long p15), (23, .int p16), (24, .int p17), (25, .int p18)], [.int p16, .int v4])) zq_296 zo_296 (by with_unfolding_all rfl) ?_
          replace hf := zf_ite hf
          obtain ⟨hc, hf⟩ | ⟨hc, hf⟩ := hf
          · refine zv_brT (off := 5) (tt := 316) (r := []) zq_296 zo_296 hc rfl rfl rfl ?_
            refine zv_p (k := 1) (f' := (318, [(0, .ref p0), (2, .int p1), (3, .int p2), (4, .int p3), (5, .int p4), (6, .int p5), (7, .long p6), (9, .long p7), (11, .int p8), (12, .int p9), (13, .long p10), (15, .long p11), (17, .long p12), (19, .int p13), (20, .int p14), (21, .long p15), (23, .int p16), (24, .int p17), (25, .int p18)], [.int p3])) zq_296 zo_296 (by with_unfolding_all rfl) ?_
            replace hf := zf_ite hf
            obtain ⟨hc, hf⟩ | ⟨hc, hf⟩ := hf
            · refine zv_brT (off := 39) (tt := 357) (r := []) zq_296 zo_296 hc rfl rfl rfl ?_
              refine zv_pick (lv' := [(0, .ref p0), (2, .int p1), (3, .int p2), (4, .int p3), (5, .int p4), (6, .int p5), (7, .long p6), (9, .long p7), (11, .int p8), (12, .int p9), (13, .long p10), (15, .long p11), (17, .long p12), (19, .int p13), (20, .int p14), (21, .long p15)]) [0, 2, 3, 4, 5, 6, 7, 9, 11, 12, 13, 15, 17, 19, 20, 21] rfl rfl ?_
              exact t_f_ColumnVaultLaw_isTold_357 hk90 _ _ _ _ _ _ _ _ _ _ _ _ _ _ _ _ _ _ _ hf
            · refine zv_brF (off := 39) (tt := 357) (r := []) zq_296 zo_296 hc rfl rfl rfl ?_
              refine zv_p (k := 2) (f' := (325, [(0, .ref p0), (2, .int p1), (3, .int p2), (4, .int p3), (5, .int p4), (6, .int p5), (7, .long p6), (9, .long p7), (11, .int p8), (12, .int p9), (13, .long p10), (15, .long p11), (17, .long p12), (19, .int p13), (20, .int p14), (21, .long p15), (23, .int p16), (24, .int p17), (25, .int p18)], [.long p15, .long p12])) zq_296 zo_296 (by with_unfolding_all rfl) ?_
              refine zv_lng zq_296 zo_296 rfl rfl ?_
              refine zv_p (k := 1) (f' := (329, [(0, .ref p0), (2, .int p1), (3, .int p2), (4, .int p3), (5, .int p4), (6, .int p5), (7, .long p6), (9, .long p7), (11, .int p8), (12, .int p9), (13, .long p10), (15, .long p11), (17, .long p12), (19, .int p13), (20, .int p14), (21, .long p15), (23, .int p16), (24, .int p17), (25, .int p18)], [.int (lg_cmp p15 (-9000000000 : Int64)), .long p12])) zq_296 zo_296 (by with_unfolding_all rfl) ?_
              replace hf := zf_ite hf
              obtain ⟨hc, hf⟩ | ⟨hc, hf⟩ := hf
              · refine zv_brT (off := 7) (tt := 336) (r := [.long p12]) zq_296 zo_296 (zl_ne.mpr hc) rfl rfl rfl ?_
                refine zv_p (k := 1) (f' := (338, [(0, .ref p0), (2, .int p1), (3, .int p2), (4, .int p3), (5, .int p4), (6, .int p5), (7, .long p6), (9, .long p7), (11, .int p8), (12, .int p9), (13, .long p10), (15, .long p11), (17, .long p12), (19, .int p13), (20, .int p14), (21, .long p15), (23, .int p16), (24, .int p17), (25, .int p18)], [.long p15, .long p12])) zq_296 zo_296 (by with_unfolding_all rfl) ?_
                refine zv_pick (lv' := [(0, .ref p0), (2, .int p1), (3, .int p2), (4, .int p3), (5, .int p4), (6, .int p5), (7, .long p6), (9, .long p7), (11, .int p8), (12, .int p9), (13, .long p10), (15, .long p11), (19, .int p13), (20, .int p14), (21, .long p15)]) [0, 2, 3, 4, 5, 6, 7, 9, 11, 12, 13, 15, 19, 20, 21] rfl rfl ?_
                exact t_f_ColumnVaultLaw_isTold_338 hk90 _ _ _ _ _ _ _ _ _ _ _ _ _ _ _ _ _ _ _ _ hf
              · refine zv_brF (off := 7) (tt := 336) (r := [.long p12]) zq_296 zo_296 (mt zl_ne.mp hc) rfl rfl rfl ?_
                refine zv_p (k := 2) (f' := (338, [(0, .ref p0), (2, .int p1), (3, .int p2), (4, .int p3), (5, .int p4), (6, .int p5), (7, .long p6), (9, .long p7), (11, .int p8), (12, .int p9), (13, .long p10), (15, .long p11), (17, .long p12), (19, .int p13), (20, .int p14), (21, .long p15), (23, .int p16), (24, .int p17), (25, .int p18)], [.long (0 : Int64), .long p12])) zq_296 zo_296 (by with_unfolding_all rfl) ?_
                refine zv_pick (lv' := [(0, .ref p0), (2, .int p1), (3, .int p2), (4, .int p3), (5, .int p4), (6, .int p5), (7, .long p6), (9, .long p7), (11, .int p8), (12, .int p9), (13, .long p10), (15, .long p11), (19, .int p13), (20, .int p14), (21, .long p15)]) [0, 2, 3, 4, 5, 6, 7, 9, 11, 12, 13, 15, 19, 20, 21] rfl rfl ?_
                exact t_f_ColumnVaultLaw_isTold_338 hk90 _ _ _ _ _ _ _ _ _ _ _ _ _ _ _ _ _ _ _ _ hf
          · refine zv_brF (off := 5) (tt := 316) (r := []) zq_296 zo_296 hc rfl rfl rfl ?_
            refine zv_p (k := 1) (f' := (315, [(0, .ref p0), (2, .int p1), (3, .int p2), (4, .int p3), (5, .int p4), (6, .int p5), (7, .long p6), (9, .long p7), (11, .int p8), (12, .int p9), (13, .long p10), (15, .long p11), (17, .long p12), (19, .int p13), (20, .int p14), (21, .long p15), (23, .int p16), (24, .int p17), (25, .int p18)], [.int (0 : Int32)])) zq_296 zo_296 (by with_unfolding_all rfl) ?_
            cases hf
            exact zv_rn zq_296 zo_296 rfl rfl
        · refine zv_brF (off := 30) (tt := 299) (r := []) zq_296 zo_296 (mt zl_ne.mp hc) rfl rfl rfl ?_
          refine zv_p (k := 2) (f' := (275, [(0, .ref p0), (2, .int p1), (3, .int p2), (4, .int p3), (5, .int p4), (6, .int p5), (7, .long p6), (9, .long p7), (11, .int p8), (12, .int p9), (13, .long p10), (15, .long p11), (17, .long p12), (19, .int p13), (20, .int p14), (21, .long p15), (23, .int p16), (24, .int p17), (25, .int p18)], [.int p2, .int p4])) zq_296 zo_296 (by with_unfolding_all rfl) ?_
          replace hf := zf_ite hf
          obtain ⟨hc, hf⟩ | ⟨hc, hf⟩ := hf
          · refine zv_brT (off := 41) (tt := 316) (r := []) zq_296 zo_296 hc rfl rfl rfl ?_
            refine zv_p (k := 1) (f' := (318, [(0, .ref p0), (2, .int p1), (3, .int p2), (4, .int p3), (5, .int p4), (6, .int p5), (7, .long p6), (9, .long p7), (11, .int p8), (12, .int p9), (13, .long p10), (15, .long p11), (17, .long p12), (19, .int p13), (20, .int p14), (21, .long p15), (23, .int p16), (24, .int p17), (25, .int p18)], [.int p3])) zq_296 zo_296 (by with_unfolding_all rfl) ?_
            replace hf := zf_ite hf
            obtain ⟨hc, hf⟩ | ⟨hc, hf⟩ := hf
            · refine zv_brT (off := 39) (tt := 357) (r := []) zq_296 zo_296 hc rfl rfl rfl ?_
              refine zv_pick (lv' := [(0, .ref p0), (2, .int p1), (3, .int p2), (4, .int p3), (5, .int p4), (6, .int p5), (7, .long p6), (9, .long p7), (11, .int p8), (12, .int p9), (13, .long p10), (15, .long p11), (17, .long p12), (19, .int p13), (20, .int p14), (21, .long p15)]) [0, 2, 3, 4, 5, 6, 7, 9, 11, 12, 13, 15, 17, 19, 20, 21] rfl rfl ?_
              exact t_f_ColumnVaultLaw_isTold_357 hk90 _ _ _ _ _ _ _ _ _ _ _ _ _ _ _ _ _ _ _ hf
            · refine zv_brF (off := 39) (tt := 357) (r := []) zq_296 zo_296 hc rfl rfl rfl ?_
              refine zv_p (k := 2) (f' := (325, [(0, .ref p0), (2, .int p1), (3, .int p2), (4, .int p3), (5, .int p4), (6, .int p5), (7, .long p6), (9, .long p7), (11, .int p8), (12, .int p9), (13, .long p10), (15, .long p11), (17, .long p12), (19, .int p13), (20, .int p14), (21, .long p15), (23, .int p16), (24, .int p17), (25, .int p18)], [.long p15, .long p12])) zq_296 zo_296 (by with_unfolding_all rfl) ?_
              refine zv_lng zq_296 zo_296 rfl rfl ?_
              refine zv_p (k := 1) (f' := (329, [(0, .ref p0), (2, .int p1), (3, .int p2), (4, .int p3), (5, .int p4), (6, .int p5), (7, .long p6), (9, .long p7), (11, .int p8), (12, .int p9), (13, .long p10), (15, .long p11), (17, .long p12), (19, .int p13), (20, .int p14), (21, .long p15), (23, .int p16), (24, .int p17), (25, .int p18)], [.int (lg_cmp p15 (-9000000000 : Int64)), .long p12])) zq_296 zo_296 (by with_unfolding_all rfl) ?_
              replace hf := zf_ite hf
              obtain ⟨hc, hf⟩ | ⟨hc, hf⟩ := hf
              · refine zv_brT (off := 7) (tt := 336) (r := [.long p12]) zq_296 zo_296 (zl_ne.mpr hc) rfl rfl rfl ?_
                refine zv_p (k := 1) (f' := (338, [(0, .ref p0), (2, .int p1), (3, .int p2), (4, .int p3), (5, .int p4), (6, .int p5), (7, .long p6), (9, .long p7), (11, .int p8), (12, .int p9), (13, .long p10), (15, .long p11), (17, .long p12), (19, .int p13), (20, .int p14), (21, .long p15), (23, .int p16), (24, .int p17), (25, .int p18)], [.long p15, .long p12])) zq_296 zo_296 (by with_unfolding_all rfl) ?_
                refine zv_pick (lv' := [(0, .ref p0), (2, .int p1), (3, .int p2), (4, .int p3), (5, .int p4), (6, .int p5), (7, .long p6), (9, .long p7), (11, .int p8), (12, .int p9), (13, .long p10), (15, .long p11), (19, .int p13), (20, .int p14), (21, .long p15)]) [0, 2, 3, 4, 5, 6, 7, 9, 11, 12, 13, 15, 19, 20, 21] rfl rfl ?_
                exact t_f_ColumnVaultLaw_isTold_338 hk90 _ _ _ _ _ _ _ _ _ _ _ _ _ _ _ _ _ _ _ _ hf
              · refine zv_brF (off := 7) (tt := 336) (r := [.long p12]) zq_296 zo_296 (mt zl_ne.mp hc) rfl rfl rfl ?_
                refine zv_p (k := 2) (f' := (338, [(0, .ref p0), (2, .int p1), (3, .int p2), (4, .int p3), (5, .int p4), (6, .int p5), (7, .long p6), (9, .long p7), (11, .int p8), (12, .int p9), (13, .long p10), (15, .long p11), (17, .long p12), (19, .int p13), (20, .int p14), (21, .long p15), (23, .int p16), (24, .int p17), (25, .int p18)], [.long (0 : Int64), .long p12])) zq_296 zo_296 (by with_unfolding_all rfl) ?_
                refine zv_pick (lv' := [(0, .ref p0), (2, .int p1), (3, .int p2), (4, .int p3), (5, .int p4), (6, .int p5), (7, .long p6), (9, .long p7), (11, .int p8), (12, .int p9), (13, .long p10), (15, .long p11), (19, .int p13), (20, .int p14), (21, .long p15)]) [0, 2, 3, 4, 5, 6, 7, 9, 11, 12, 13, 15, 19, 20, 21] rfl rfl ?_
                exact t_f_ColumnVaultLaw_isTold_338 hk90 _ _ _ _ _ _ _ _ _ _ _ _ _ _ _ _ _ _ _ _ hf
          · refine zv_brF (off := 41) (tt := 316) (r := []) zq_296 zo_296 hc rfl rfl rfl ?_
            refine zv_p (k := 6) (f' := (286, [(0, .ref p0), (2, .int p1), (3, .int p2), (4, .int p3), (5, .int p4), (6, .int p5), (7, .long p6), (9, .long p7), (11, .int p8), (12, .int p9), (13, .long p10), (15, .long p11), (17, .long p12), (19, .int p13), (20, .int p14), (21, .long p15), (23, .int p16), (24, .int p17), (25, .int p18)], [.long (p14).toInt64, .int p2, .int p1, .int (13 : Int32), .ref p0])) zq_296 zo_296 (by with_unfolding_all rfl) ?_
            replace hf := zf_b2e hf
            obtain ⟨v7, h8, hv, hf⟩ := hf
            refine zv_c zq_296 zo_296 rfl rfl rfl rfl rfl rfl (t_f_ColumnVaultLaw_asks _ _ _ _ _ _ _ _ hv) ?_
            refine zv_lng zq_296 zo_296 rfl rfl ?_
            refine zv_p (k := 1) (f' := (293, [(0, .ref p0), (2, .int p1), (3, .int p2), (4, .int p3), (5, .int p4), (6, .int p5), (7, .long p6), (9, .long p7), (11, .int p8), (12, .int p9), (13, .long p10), (15, .long p11), (17, .long p12), (19, .int p13), (20, .int p14), (21, .long p15), (23, .int p16), (24, .int p17), (25, .int p18)], [.int (lg_cmp v7 (-3000000002 : Int64))])) zq_296 zo_296 (by with_unfolding_all rfl) ?_
            replace hf := zf_ite hf
            obtain ⟨hc, hf⟩ | ⟨hc, hf⟩ := hf
            · refine zv_brT (off := 23) (tt := 316) (r := []) zq_296 zo_296 (zl_eq.mpr hc) rfl rfl rfl ?_
              refine zv_p (k := 1) (f' := (318, [(0, .ref p0), (2, .int p1), (3, .int p2), (4, .int p3), (5, .int p4), (6, .int p5), (7, .long p6), (9, .long p7), (11, .int p8), (12, .int p9), (13, .long p10), (15, .long p11), (17, .long p12), (19, .int p13), (20, .int p14), (21, .long p15), (23, .int p16), (24, .int p17), (25, .int p18)], [.int p3])) zq_296 zo_296 (by with_unfolding_all rfl) ?_
              replace hf := zf_ite hf
              obtain ⟨hc, hf⟩ | ⟨hc, hf⟩ := hf
              · refine zv_brT (off := 39) (tt := 357) (r := []) zq_296 zo_296 hc rfl rfl rfl ?_
                refine zv_pick (lv' := [(0, .ref p0), (2, .int p1), (3, .int p2), (4, .int p3), (5, .int p4), (6, .int p5), (7, .long p6), (9, .long p7), (11, .int p8), (12, .int p9), (13, .long p10), (15, .long p11), (17, .long p12), (19, .int p13), (20, .int p14), (21, .long p15)]) [0, 2, 3, 4, 5, 6, 7, 9, 11, 12, 13, 15, 17, 19, 20, 21] rfl rfl ?_
                exact t_f_ColumnVaultLaw_isTold_357 hk90 _ _ _ _ _ _ _ _ _ _ _ _ _ _ _ _ _ _ _ hf
              · refine zv_brF (off := 39) (tt := 357) (r := []) zq_296 zo_296 hc rfl rfl rfl ?_
                refine zv_p (k := 2) (f' := (325, [(0, .ref p0), (2, .int p1), (3, .int p2), (4, .int p3), (5, .int p4), (6, .int p5), (7, .long p6), (9, .long p7), (11, .int p8), (12, .int p9), (13, .long p10), (15, .long p11), (17, .long p12), (19, .int p13), (20, .int p14), (21, .long p15), (23, .int p16), (24, .int p17), (25, .int p18)], [.long p15, .long p12])) zq_296 zo_296 (by with_unfolding_all rfl) ?_
                refine zv_lng zq_296 zo_296 rfl rfl ?_
                refine zv_p (k := 1) (f' := (329, [(0, .ref p0), (2, .int p1), (3, .int p2), (4, .int p3), (5, .int p4), (6, .int p5), (7, .long p6), (9, .long p7), (11, .int p8), (12, .int p9), (13, .long p10), (15, .long p11), (17, .long p12), (19, .int p13), (20, .int p14), (21, .long p15), (23, .int p16), (24, .int p17), (25, .int p18)], [.int (lg_cmp p15 (-9000000000 : Int64)), .long p12])) zq_296 zo_296 (by with_unfolding_all rfl) ?_
                replace hf := zf_ite hf
                obtain ⟨hc, hf⟩ | ⟨hc, hf⟩ := hf
                · refine zv_brT (off := 7) (tt := 336) (r := [.long p12]) zq_296 zo_296 (zl_ne.mpr hc) rfl rfl rfl ?_
                  refine zv_p (k := 1) (f' := (338, [(0, .ref p0), (2, .int p1), (3, .int p2), (4, .int p3), (5, .int p4), (6, .int p5), (7, .long p6), (9, .long p7), (11, .int p8), (12, .int p9), (13, .long p10), (15, .long p11), (17, .long p12), (19, .int p13), (20, .int p14), (21, .long p15), (23, .int p16), (24, .int p17), (25, .int p18)], [.long p15, .long p12])) zq_296 zo_296 (by with_unfolding_all rfl) ?_
                  refine zv_pick (lv' := [(0, .ref p0), (2, .int p1), (3, .int p2), (4, .int p3), (5, .int p4), (6, .int p5), (7, .long p6), (9, .long p7), (11, .int p8), (12, .int p9), (13, .long p10), (15, .long p11), (19, .int p13), (20, .int p14), (21, .long p15)]) [0, 2, 3, 4, 5, 6, 7, 9, 11, 12, 13, 15, 19, 20, 21] rfl rfl ?_
                  exact t_f_ColumnVaultLaw_isTold_338 hk90 _ _ _ _ _ _ _ _ _ _ _ _ _ _ _ _ _ _ _ _ hf
                · refine zv_brF (off := 7) (tt := 336) (r := [.long p12]) zq_296 zo_296 (mt zl_ne.mp hc) rfl rfl rfl ?_
                  refine zv_p (k := 2) (f' := (338, [(0, .ref p0), (2, .int p1), (3, .int p2), (4, .int p3), (5, .int p4), (6, .int p5), (7, .long p6), (9, .long p7), (11, .int p8), (12, .int p9), (13, .long p10), (15, .long p11), (17, .long p12), (19, .int p13), (20, .int p14), (21, .long p15), (23, .int p16), (24, .int p17), (25, .int p18)], [.long (0 : Int64), .long p12])) zq_296 zo_296 (by with_unfolding_all rfl) ?_
                  refine zv_pick (lv' := [(0, .ref p0), (2, .int p1), (3, .int p2), (4, .int p3), (5, .int p4), (6, .int p5), (7, .long p6), (9, .long p7), (11, .int p8), (12, .int p9), (13, .long p10), (15, .long p11), (19, .int p13), (20, .int p14), (21, .long p15)]) [0, 2, 3, 4, 5, 6, 7, 9, 11, 12, 13, 15, 19, 20, 21] rfl rfl ?_
                  exact t_f_ColumnVaultLaw_isTold_338 hk90 _ _ _ _ _ _ _ _ _ _ _ _ _ _ _ _ _ _ _ _ hf
            · refine zv_brF (off := 23) (tt := 316) (r := []) zq_296 zo_296 (mt zl_eq.mp hc) rfl rfl rfl ?_
              refine zv_p (k := 2) (f' := (315, [(0, .ref p0), (2, .int p1), (3, .int p2), (4, .int p3), (5, .int p4), (6, .int p5), (7, .long p6), (9, .long p7), (11, .int p8), (12, .int p9), (13, .long p10), (15, .long p11), (17, .long p12), (19, .int p13), (20, .int p14), (21, .long p15), (23, .int p16), (24, .int p17), (25, .int p18)], [.int (0 : Int32)])) zq_296 zo_296 (by with_unfolding_all rfl) ?_
              cases hf
              exact zv_rn zq_296 zo_296 rfl rfl
    · refine zv_brF (off := 120) (tt := 249) (r := []) zq_296 zo_296 hc rfl rfl rfl ?_
      refine zv_p (k := 3) (f' := (136, [(0, .ref p0), (2, .int p1), (3, .int p2), (4, .int p3), (5, .int p4), (6, .int p5), (7, .long p6), (9, .long p7), (11, .int p8), (12, .int p9), (13, .long p10), (15, .long p11), (17, .long p12), (19, .int p13), (20, .int p14), (21, .long p15), (23, .int p16), (24, .int p17), (25, .int p18)], [.int p18, .int p1, .ref p0])) zq_296 zo_296 (by with_unfolding_all rfl) ?_
      replace hf := zf_be hf
      obtain ⟨_, ho, hf⟩ := hf
      replace hf := zf_b3e hf
      obtain ⟨v9, h10, hv, hf⟩ | ⟨E11, h10, hv, hf⟩ := hf
      rotate_left
      · cases hf; exact zv_cx zq_296 zo_296 rfl rfl rfl rfl rfl (zv_cv rfl rfl rfl (zf_ise ho) rfl) (t_f_ColumnVault_rowAt _ _ _ _ _ _ hv) rfl
      refine zv_c zq_296 zo_296 rfl rfl rfl rfl rfl (zv_cv rfl rfl rfl (zf_ise ho) rfl) (t_f_ColumnVault_rowAt _ _ _ _ _ _ hv) ?_
      refine zv_p (k := 5) (f' := (147, [(26, .int v9), (0, .ref p0), (2, .int p1), (3, .int p2), (4, .int p3), (5, .int p4), (6, .int p5), (7, .long p6), (9, .long p7), (11, .int p8), (12, .int p9), (13, .long p10), (15, .long p11), (17, .long p12), (19, .int p13), (20, .int p14), (21, .long p15), (23, .int p16), (24, .int p17), (25, .int p18)], [.int p4, .int v9, .int p1, .ref p0])) zq_296 zo_296 (by with_unfolding_all rfl) ?_
      replace hf := zf_be hf
      obtain ⟨_, ho, hf⟩ := hf
      replace hf := zf_b3e hf
      obtain ⟨v12, h13, hv, hf⟩ | ⟨E14, h13, hv, hf⟩ := hf
      rotate_left
      · cases hf; exact zv_cx zq_296 zo_296 rfl rfl rfl rfl rfl (zv_cv rfl rfl rfl (zf_ise ho) rfl) (t_f_ColumnVault_get _ _ _ _ _ _ _ hv) rfl
      refine zv_c zq_296 zo_296 rfl rfl rfl rfl rfl (zv_cv rfl rfl rfl (zf_ise ho) rfl) (t_f_ColumnVault_get _ _ _ _ _ _ _ hv) ?_
      refine zv_p (k := 4) (f' := (156, [(26, .int v9), (0, .ref p0), (2, .int p1), (3, .int p2), (4, .int p3), (5, .int p4), (6, .int p5), (7, .long p6), (9, .long p7), (11, .int p8), (12, .int p9), (13, .long p10), (15, .long p11), (17, .long p12), (19, .int p13), (20, .int p14), (21, .long p15), (23, .int p16), (24, .int p17), (25, .int p18)], [.int p4, .int p14, .int p1, .ref p0, .long v12])) zq_296 zo_296 (by with_unfolding_all rfl) ?_
      replace hf := zf_be hf
      obtain ⟨_, ho, hf⟩ := hf
      replace hf := zf_b3e hf
      obtain ⟨v15, h16, hv, hf⟩ | ⟨E17, h16, hv, hf⟩ := hf
      rotate_left
      · cases hf; exact zv_cx zq_296 zo_296 rfl rfl rfl rfl rfl (zv_cv rfl rfl rfl (zf_ise ho) rfl) (t_f_ColumnVault_get _ _ _ _ _ _ _ hv) rfl
      refine zv_c zq_296 zo_296 rfl rfl rfl rfl rfl (zv_cv rfl rfl rfl (zf_ise ho) rfl) (t_f_ColumnVault_get _ _ _ _ _ _ _ hv) ?_
      refine zv_p (k := 1) (f' := (160, [(26, .int v9), (0, .ref p0), (2, .int p1), (3, .int p2), (4, .int p3), (5, .int p4), (6, .int p5), (7, .long p6), (9, .long p7), (11, .int p8), (12, .int p9), (13, .long p10), (15, .long p11), (17, .long p12), (19, .int p13), (20, .int p14), (21, .long p15), (23, .int p16), (24, .int p17), (25, .int p18)], [.int (lg_cmp v12 v15)])) zq_296 zo_296 (by with_unfolding_all rfl) ?_
      replace hf := zf_ite hf
      obtain ⟨hc, hf⟩ | ⟨hc, hf⟩ := hf
      · refine zv_brT (off := 7) (tt := 167) (r := []) zq_296 zo_296 (zl_ne.mpr hc) rfl rfl rfl ?_
        refine zv_p (k := 4) (f' := (174, [(27, .int (0 : Int32)), (26, .int v9), (0, .ref p0), (2, .int p1), (3, .int p2), (4, .int p3), (5, .int p4), (6, .int p5), (7, .long p6), (9, .long p7), (11, .int p8), (12, .int p9), (13, .long p10), (15, .long p11), (17, .long p12), (19, .int p13), (20, .int p14), (21, .long p15), (23, .int p16), (24, .int p17), (25, .int p18)], [.int p13, .int p18])) zq_296 zo_296 (by with_unfolding_all rfl) ?_
        replace hf := zf_ite hf
        obtain ⟨hc, hf⟩ | ⟨hc, hf⟩ := hf
        · refine zv_brT (off := 12) (tt := 186) (r := []) zq_296 zo_296 hc rfl rfl rfl ?_
          refine zv_pick (lv' := [(0, .ref p0), (2, .int p1), (3, .int p2), (4, .int p3), (5, .int p4), (6, .int p5), (7, .long p6), (9, .long p7), (11, .int p8), (12, .int p9), (13, .long p10), (15, .long p11), (17, .long p12), (19, .int p13), (20, .int p14), (21, .long p15), (23, .int p16), (24, .int p17), (25, .int p18), (26, .int v9), (27, .int (0 : Int32))]) [0, 2, 3, 4, 5, 6, 7, 9, 11, 12, 13, 15, 17, 19, 20, 21, 23, 24, 25, 26, 27] rfl rfl ?_
          exact t_f_ColumnVaultLaw_isTold_186 hk90 ih _ _ _ _ _ _ _ _ _ _ _ _ _ _ _ _ _ _ _ _ _ _ _ _ hf
        · refine zv_brF (off := 12) (tt := 186) (r := []) zq_296 zo_296 hc rfl rfl rfl ?_
          refine zv_p (k := 1) (f' := (179, [(27, .int (0 : Int32)), (26, .int v9), (0, .ref p0), (2, .int p1), (3, .int p2), (4, .int p3), (5, .int p4), (6, .int p5), (7, .long p6), (9, .long p7), (11, .int p8), (12, .int p9), (13, .long p10), (15, .long p11), (17, .long p12), (19, .int p13), (20, .int p14), (21, .long p15), (23, .int p16), (24, .int p17), (25, .int p18)], [.int (0 : Int32)])) zq_296 zo_296 (by with_unfolding_all rfl) ?_
          replace hf := zf_ite hf
          obtain ⟨hc, hf⟩ | ⟨hc, hf⟩ := hf
          · refine zv_brT (off := 7) (tt := 186) (r := []) zq_296 zo_296 hc rfl rfl rfl ?_
            refine zv_pick (lv' := [(0, .ref p0), (2, .int p1), (3, .int p2), (4, .int p3), (5, .int p4), (6, .int p5), (7, .long p6), (9, .long p7), (11, .int p8), (12, .int p9), (13, .long p10), (15, .long p11), (17, .long p12), (19, .int p13), (20, .int p14), (21, .long p15), (23, .int p16), (24, .int p17), (25, .int p18), (26, .int v9), (27, .int (0 : Int32))]) [0, 2, 3, 4, 5, 6, 7, 9, 11, 12, 13, 15, 17, 19, 20, 21, 23, 24, 25, 26, 27] rfl rfl ?_
            exact t_f_ColumnVaultLaw_isTold_186 hk90 ih _ _ _ _ _ _ _ _ _ _ _ _ _ _ _ _ _ _ _ _ _ _ _ _ hf
          · refine zv_brF (off := 7) (tt := 186) (r := []) zq_296 zo_296 hc rfl rfl rfl ?_
            refine zv_p (k := 2) (f' := (186, [(24, .int v9), (27, .int (0 : Int32)), (26, .int v9), (0, .ref p0), (2, .int p1), (3, .int p2), (4, .int p3), (5, .int p4), (6, .int p5), (7, .long p6), (9, .long p7), (11, .int p8), (12, .int p9), (13, .long p10), (15, .long p11), (17, .long p12), (19, .int p13), (20, .int p14), (21, .long p15), (23, .int p16), (25, .int p18)], [])) zq_296 zo_296 (by with_unfolding_all rfl) ?_
            refine zv_pick (lv' := [(0, .ref p0), (2, .int p1), (3, .int p2), (4, .int p3), (5, .int p4), (6, .int p5), (7, .long p6), (9, .long p7), (11, .int p8), (12, .int p9), (13, .long p10), (15, .long p11), (17, .long p12), (19, .int p13), (20, .int p14), (21, .long p15), (23, .int p16), (24, .int v9), (25, .int p18), (26, .int v9), (27, .int (0 : Int32))]) [0, 2, 3, 4, 5, 6, 7, 9, 11, 12, 13, 15, 17, 19, 20, 21, 23, 24, 25, 26, 27] rfl rfl ?_
            exact t_f_ColumnVaultLaw_isTold_186 hk90 ih _ _ _ _ _ _ _ _ _ _ _ _ _ _ _ _ _ _ _ _ _ _ _ _ hf
      · refine zv_brF (off := 7) (tt := 167) (r := []) zq_296 zo_296 (mt zl_ne.mp hc) rfl rfl rfl ?_
        refine zv_p (k := 5) (f' := (174, [(27, .int (1 : Int32)), (26, .int v9), (0, .ref p0), (2, .int p1), (3, .int p2), (4, .int p3), (5, .int p4), (6, .int p5), (7, .long p6), (9, .long p7), (11, .int p8), (12, .int p9), (13, .long p10), (15, .long p11), (17, .long p12), (19, .int p13), (20, .int p14), (21, .long p15), (23, .int p16), (24, .int p17), (25, .int p18)], [.int p13, .int p18])) zq_296 zo_296 (by with_unfolding_all rfl) ?_
        replace hf := zf_ite hf
        obtain ⟨hc, hf⟩ | ⟨hc, hf⟩ := hf
        · refine zv_brT (off := 12) (tt := 186) (r := []) zq_296 zo_296 hc rfl rfl rfl ?_
          refine zv_pick (lv' := [(0, .ref p0), (2, .int p1), (3, .int p2), (4, .int p3), (5, .int p4), (6, .int p5), (7, .long p6), (9, .long p7), (11, .int p8), (12, .int p9), (13, .long p10), (15, .long p11), (17, .long p12), (19, .int p13), (20, .int p14), (21, .long p15), (23, .int p16), (24, .int p17), (25, .int p18), (26, .int v9), (27, .int (1 : Int32))]) [0, 2, 3, 4, 5, 6, 7, 9, 11, 12, 13, 15, 17, 19, 20, 21, 23, 24, 25, 26, 27] rfl rfl ?_
          exact t_f_ColumnVaultLaw_isTold_186 hk90 ih _ _ _ _ _ _ _ _ _ _ _ _ _ _ _ _ _ _ _ _ _ _ _ _ hf
        · refine zv_brF (off := 12) (tt := 186) (r := []) zq_296 zo_296 hc rfl rfl rfl ?_
          refine zv_p (k := 1) (f' := (179, [(27, .int (1 : Int32)), (26, .int v9), (0, .ref p0), (2, .int p1), (3, .int p2), (4, .int p3), (5, .int p4), (6, .int p5), (7, .long p6), (9, .long p7), (11, .int p8), (12, .int p9), (13, .long p10), (15, .long p11), (17, .long p12), (19, .int p13), (20, .int p14), (21, .long p15), (23, .int p16), (24, .int p17), (25, .int p18)], [.int (1 : Int32)])) zq_296 zo_296 (by with_unfolding_all rfl) ?_
          replace hf := zf_ite hf
          obtain ⟨hc, hf⟩ | ⟨hc, hf⟩ := hf
          · refine zv_brT (off := 7) (tt := 186) (r := []) zq_296 zo_296 hc rfl rfl rfl ?_
            refine zv_pick (lv' := [(0, .ref p0), (2, .int p1), (3, .int p2), (4, .int p3), (5, .int p4), (6, .int p5), (7, .long p6), (9, .long p7), (11, .int p8), (12, .int p9), (13, .long p10), (15, .long p11), (17, .long p12), (19, .int p13), (20, .int p14), (21, .long p15), (23, .int p16), (24, .int p17), (25, .int p18), (26, .int v9), (27, .int (1 : Int32))]) [0, 2, 3, 4, 5, 6, 7, 9, 11, 12, 13, 15, 17, 19, 20, 21, 23, 24, 25, 26, 27] rfl rfl ?_
            exact t_f_ColumnVaultLaw_isTold_186 hk90 ih _ _ _ _ _ _ _ _ _ _ _ _ _ _ _ _ _ _ _ _ _ _ _ _ hf
          · refine zv_brF (off := 7) (tt := 186) (r := []) zq_296 zo_296 hc rfl rfl rfl ?_
            refine zv_p (k := 2) (f' := (186, [(24, .int v9), (27, .int (1 : Int32)), (26, .int v9), (0, .ref p0), (2, .int p1), (3, .int p2), (4, .int p3), (5, .int p4), (6, .int p5), (7, .long p6), (9, .long p7), (11, .int p8), (12, .int p9), (13, .long p10), (15, .long p11), (17, .long p12), (19, .int p13), (20, .int p14), (21, .long p15), (23, .int p16), (25, .int p18)], [])) zq_296 zo_296 (by with_unfolding_all rfl) ?_
            refine zv_pick (lv' := [(0, .ref p0), (2, .int p1), (3, .int p2), (4, .int p3), (5, .int p4), (6, .int p5), (7, .long p6), (9, .long p7), (11, .int p8), (12, .int p9), (13, .long p10), (15, .long p11), (17, .long p12), (19, .int p13), (20, .int p14), (21, .long p15), (23, .int p16), (24, .int v9), (25, .int p18), (26, .int v9), (27, .int (1 : Int32))]) [0, 2, 3, 4, 5, 6, 7, 9, 11, 12, 13, 15, 17, 19, 20, 21, 23, 24, 25, 26, 27] rfl rfl ?_
            exact t_f_ColumnVaultLaw_isTold_186 hk90 ih _ _ _ _ _ _ _ _ _ _ _ _ _ _ _ _ _ _ _ _ _ _ _ _ hf
