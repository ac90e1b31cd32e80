set_option maxHeartbeats 1000000 in
def f_ColumnVaultLaw_isSorted_158 (k10 : Nat → Nat → Int32 → Int32 → Int32 → zx_H → Option ((Int32 ⊕ Nat) × zx_H)) : Nat → Nat → Nat → Int32 → Int32 → Int32 → Int32 → Int32 → Int32 → Nat → Nat → Int32 → zx_H → Option ((Int32 ⊕ Nat) × zx_H)
  | 0, _, _, _, _, _, _, _, _, _, _, _, _ => none
  | n + 1, p0, p1, p2, p3, p4, p5, p6, p7, p8, p9, p10, h =>
    zf_b (zf_len p8 h) fun v1 =>
    if v1 ≤ p10 then
      k10 p0 p1 p2 p3 (p4 + (1 : Int32)) h
    else
      zf_b (zf_ldI p8 (p10 - (1 : Int32)) h) fun v2 =>
      zf_b (zf_is 12 p0 h) fun _ =>
      zf_b3 (f_ColumnVault_get p0 p2 v2 p5 h) fun v3 h4 =>
      zf_b (zf_ldI p8 p10 h4) fun v6 =>
      zf_b (zf_is 12 p0 h4) fun _ =>
      zf_b3 (f_ColumnVault_get p0 p2 v6 p5 h4) fun v7 h8 =>
      if ¬ v3 = v7 then
        if ¬ v3 = (-9000000000 : Int64) then
          if ¬ v7 = (-9000000000 : Int64) then
            if p6 = 0 then
              zf_b (zf_is 12 p0 h8) fun _ =>
              zf_b3 (f_ColumnVault_kind p0 p2 p5 h8) fun v10 h11 =>
              zf_b2 (f_ColumnVaultLaw_than v10 v3 v7 h11) fun v13 h14 =>
              f_ColumnVaultLaw_isSorted_289 k10 (f_ColumnVaultLaw_isSorted_158 k10 n) p0 p1 p2 p3 p4 p5 p6 p7 p8 p9 p10 v13 h14
            else
              zf_b (zf_is 12 p0 h8) fun _ =>
              zf_b3 (f_ColumnVault_kind p0 p2 p5 h8) fun v15 h16 =>
              zf_b2 (f_ColumnVaultLaw_than v15 v3 v7 h16) fun v18 h19 =>
              f_ColumnVaultLaw_isSorted_289 k10 (f_ColumnVaultLaw_isSorted_158 k10 n) p0 p1 p2 p3 p4 p5 p6 p7 p8 p9 p10 (-v18) h19
          else
            if p7 = 0 then
              f_ColumnVaultLaw_isSorted_289 k10 (f_ColumnVaultLaw_isSorted_158 k10 n) p0 p1 p2 p3 p4 p5 p6 p7 p8 p9 p10 (-1 : Int32) h8
            else
              f_ColumnVaultLaw_isSorted_289 k10 (f_ColumnVaultLaw_isSorted_158 k10 n) p0 p1 p2 p3 p4 p5 p6 p7 p8 p9 p10 (1 : Int32) h8
        else
          if p7 = 0 then
            f_ColumnVaultLaw_isSorted_289 k10 (f_ColumnVaultLaw_isSorted_158 k10 n) p0 p1 p2 p3 p4 p5 p6 p7 p8 p9 p10 (1 : Int32) h8
          else
            f_ColumnVaultLaw_isSorted_289 k10 (f_ColumnVaultLaw_isSorted_158 k10 n) p0 p1 p2 p3 p4 p5 p6 p7 p8 p9 p10 (-1 : Int32) h8
      else
        f_ColumnVaultLaw_isSorted_289 k10 (f_ColumnVaultLaw_isSorted_158 k10 n) p0 p1 p2 p3 p4 p5 p6 p7 p8 p9 p10 (0 : Int32) h8
set_option maxHeartbeats 4000000 in
set_option maxRecDepth 400000 in
theorem t_f_ColumnVaultLaw_isSorted_158 {sc : (Nat × (Nat → Int32)) × Bool} {d : Nat} {k10 : Nat → Nat → Int32 → Int32 → Int32 → zx_H → Option ((Int32 ⊕ Nat) × zx_H)} (hk10 : ∀ (a0 : Nat) (a1 : Nat) (a2 : Int32) (a3 : Int32) (a4 : Int32) (h : zx_H) (r : (Int32 ⊕ Nat)) (h' : zx_H), k10 a0 a1 a2 a3 a4 h = some (r, h') → zx_T sc (d + 8) 203 (10, [(0, .ref a0), (1, .ref a1), (2, .int a2), (3, .int a3), (4, .int a4)], []) h (zf_oIx r) h') : ∀ (n : Nat) (p0 : Nat) (p1 : Nat) (p2 : Int32) (p3 : Int32) (p4 : Int32) (p5 : Int32) (p6 : Int32) (p7 : Int32) (p8 : Nat) (p9 : Nat) (p10 : Int32) (h : zx_H) (r : (Int32 ⊕ Nat)) (h' : zx_H), f_ColumnVaultLaw_isSorted_158 k10 n p0 p1 p2 p3 p4 p5 p6 p7 p8 p9 p10 h = some (r, h') → zx_T sc (d + 8) 203 (158, [(0, .ref p0), (1, .ref p1), (2, .int p2), (3, .int p3), (4, .int p4), (5, .int p5), (6, .int p6), (7, .int p7), (10, .ref p8), (12, .ref p9), (13, .int p10)], []) h (zf_oIx r) h' := by
  intro n
  induction n with
  | zero => intro p0 p1 p2 p3 p4 p5 p6 p7 p8 p9 p10 h r h' hf; cases hf
  | succ n ih =>
    intro p0 p1 p2 p3 p4 p5 p6 p7 p8 p9 p10 h r h' hf
    unfold f_ColumnVaultLaw_isSorted_158 at hf
    refine zv_p (k := 2) (f' := (162, [(0, .ref p0), (1, .ref p1), (2, .int p2), (3, .int p3), (4, .int p4), (5, .int p5), (6, .int p6), (7, .int p7), (10, .ref p8), (12, .ref p9), (13, .int p10)], [.ref p8, .int p10])) zq_203 zo_203 (by with_unfolding_all rfl) ?_
    replace hf := zf_be hf
    obtain ⟨v1, hv, hf⟩ := hf
    refine zv_len zq_203 zo_203 rfl hv ?_
    replace hf := zf_ite hf
    obtain ⟨hc, hf⟩ | ⟨hc, hf⟩ := hf
    · refine zv_brT (off := 167) (tt := 330) (r := []) zq_203 zo_203 hc rfl rfl rfl ?_
      refine zv_p (k := 2) (f' := (10, [(4, .int (p4 + (1 : Int32))), (0, .ref p0), (1, .ref p1), (2, .int p2), (3, .int p3), (5, .int p5), (6, .int p6), (7, .int p7), (10, .ref p8), (12, .ref p9), (13, .int p10)], [])) zq_203 zo_203 (by with_unfolding_all rfl) ?_
      refine zv_pick (lv' := [(0, .ref p0), (1, .ref p1), (2, .int p2), (3, .int p3), (4, .int (p4 + (1 : Int32)))]) [0, 1, 2, 3, 4] rfl rfl ?_
      exact hk10 _ _ _ _ _ _ _ _ hf
    · refine zv_brF (off := 167) (tt := 330) (r := []) zq_203 zo_203 hc rfl rfl rfl ?_
      refine zv_p (k := 6) (f' := (174, [(0, .ref p0), (1, .ref p1), (2, .int p2), (3, .int p3), (4, .int p4), (5, .int p5), (6, .int p6), (7, .int p7), (10, .ref p8), (12, .ref p9), (13, .int p10)], [.int (p10 - (1 : Int32)), .ref p8, .int p2, .ref p0])) zq_203 zo_203 (by with_unfolding_all rfl) ?_
      replace hf := zf_be hf
      obtain ⟨v2, hv, hf⟩ := hf
      refine zv_ldI zq_203 zo_203 rfl hv ?_
      refine zv_p (k := 1) (f' := (177, [(0, .ref p0), (1, .ref p1), (2, .int p2), (3, .int p3), (4, .int p4), (5, .int p5), (6, .int p6), (7, .int p7), (10, .ref p8), (12, .ref p9), (13, .int p10)], [.int p5, .int v2, .int p2, .ref p0])) zq_203 zo_203 (by with_unfolding_all rfl) ?_
      replace hf := zf_be hf
      obtain ⟨_, ho, hf⟩ := hf
      replace hf := zf_b3e hf
      obtain ⟨v3, h4, hv, hf⟩ | ⟨E5, h4, hv, hf⟩ := hf
      rotate_left
      · cases hf; exact zv_cx zq_203 zo_203 rfl rfl rfl rfl rfl (zv_cv rfl rfl rfl (zf_ise ho) rfl) (t_f_ColumnVault_get _ _ _ _ _ _ _ hv) rfl
      refine zv_c zq_203 zo_203 rfl rfl rfl rfl rfl (zv_cv rfl rfl rfl (zf_ise ho) rfl) (t_f_ColumnVault_get _ _ _ _ _ _ _ hv) ?_
      refine zv_p (k := 5) (f' := (188, [(14, .long v3), (0, .ref p0), (1, .ref p1), (2, .int p2), (3, .int p3), (4, .int p4), (5, .int p5), (6, .int p6), (7, .int p7), (10, .ref p8), (12, .ref p9), (13, .int p10)], [.int p10, .ref p8, .int p2, .ref p0])) zq_203 zo_203 (by with_unfolding_all rfl) ?_
      replace hf := zf_be hf
      obtain ⟨v6, hv, hf⟩ := hf
      refine zv_ldI zq_203 zo_203 rfl hv ?_
      refine zv_p (k := 1) (f' := (191, [(14, .long v3), (0, .ref p0), (1, .ref p1), (2, .int p2), (3, .int p3), (4, .int p4), (5, .int p5), (6, .int p6), (7, .int p7), (10, .ref p8), (12, .ref p9), (13, .int p10)], [.int p5, .int v6, .int p2, .ref p0])) zq_203 zo_203 (by with_unfolding_all rfl) ?_
      replace hf := zf_be hf
      obtain ⟨_, ho, hf⟩ := hf
      replace hf := zf_b3e hf
      obtain ⟨v7, h8, hv, hf⟩ | ⟨E9, h8, hv, hf⟩ := hf
      rotate_left
      · cases hf; exact zv_cx zq_203 zo_203 rfl rfl rfl rfl rfl (zv_cv rfl rfl rfl (zf_ise ho) rfl) (t_f_ColumnVault_get _ _ _ _ _ _ _ hv) rfl
      refine zv_c zq_203 zo_203 rfl rfl rfl rfl rfl (zv_cv rfl rfl rfl (zf_ise ho) rfl) (t_f_ColumnVault_get _ _ _ _ _ _ _ hv) ?_
      refine zv_p (k := 4) (f' := (201, [(16, .long v7), (14, .long v3), (0, .ref p0), (1, .ref p1), (2, .int p2), (3, .int p3), (4, .int p4), (5, .int p5), (6, .int p6), (7, .int p7), (10, .ref p8), (12, .ref p9), (13, .int p10)], [.int (lg_cmp v3 v7)])) zq_203 zo_203 (by with_unfolding_all rfl) ?_
      replace hf := zf_ite hf
      obtain ⟨hc, hf⟩ | ⟨hc, hf⟩ := hf
      · refine zv_brT (off := 7) (tt := 208) (r := []) zq_203 zo_203 (zl_ne.mpr hc) rfl rfl rfl ?_
        refine zv_p (k := 1) (f' := (210, [(16, .long v7), (14, .long v3), (0, .ref p0), (1, .ref p1), (2, .int p2), (3, .int p3), (4, .int p4), (5, .int p5), (6, .int p6), (7, .int p7), (10, .ref p8), (12, .ref p9), (13, .int p10)], [.long v3])) zq_203 zo_203 (by with_unfolding_all rfl) ?_
        refine zv_lng zq_203 zo_203 rfl rfl ?_
        refine zv_p (k := 1) (f' := (214, [(16, .long v7), (14, .long v3), (0, .ref p0), (1, .ref p1), (2, .int p2), (3, .int p3), (4, .int p4), (5, .int p5), (6, .int p6), (7, .int p7), (10, .ref p8), (12, .ref p9), (13, .int p10)], [.int (lg_cmp v3 (-9000000000 : Int64))])) zq_203 zo_203 (by with_unfolding_all rfl) ?_
        replace hf := zf_ite hf
        obtain ⟨hc, hf⟩ | ⟨hc, hf⟩ := hf
        · refine zv_brT (off := 16) (tt := 230) (r := []) zq_203 zo_203 (zl_ne.mpr hc) rfl rfl rfl ?_
          refine zv_p (k := 1) (f' := (232, [(16, .long v7), (14, .long v3), (0, .ref p0), (1, .ref p1), (2, .int p2), (3, .int p3), (4, .int p4), (5, .int p5), (6, .int p6), (7, .int p7), (10, .ref p8), (12, .ref p9), (13, .int p10)], [.long v7])) zq_203 zo_203 (by with_unfolding_all rfl) ?_
          refine zv_lng zq_203 zo_203 rfl rfl ?_
          refine zv_p (k := 1) (f' := (236, [(16, .long v7), (14, .long v3), (0, .ref p0), (1, .ref p1), (2, .int p2), (3, .int p3), (4, .int p4), (5, .int p5), (6, .int p6), (7, .int p7), (10, .ref p8), (12, .ref p9), (13, .int p10)], [.int (lg_cmp v7 (-9000000000 : Int64))])) zq_203 zo_203 (by with_unfolding_all rfl) ?_
          replace hf := zf_ite hf
          obtain ⟨hc, hf⟩ | ⟨hc, hf⟩ := hf
          · refine zv_brT (off := 16) (tt := 252) (r := []) zq_203 zo_203 (zl_ne.mpr hc) rfl rfl rfl ?_
            refine zv_p (k := 1) (f' := (254, [(16, .long v7), (14, .long v3), (0, .ref p0), (1, .ref p1), (2, .int p2), (3, .int p3), (4, .int p4), (5, .int p5), (6, .int p6), (7, .int p7), (10, .ref p8), (12, .ref p9), (13, .int p10)], [.int p6])) zq_203 zo_203 (by with_unfolding_all rfl) ?_
            replace hf := zf_ite hf
            obtain ⟨hc, hf⟩ | ⟨hc, hf⟩ := hf
            · refine zv_brT (off := 21) (tt := 275) (r := []) zq_203 zo_203 hc rfl rfl rfl ?_
              refine zv_p (k := 3) (f' := (279, [(16, .long v7), (14, .long v3), (0, .ref p0), (1, .ref p1), (2, .int p2), (3, .int p3), (4, .int p4), (5, .int p5), (6, .int p6), (7, .int p7), (10, .ref p8), (12, .ref p9), (13, .int p10)], [.int p5, .int p2, .ref p0])) zq_203 zo_203 (by with_unfolding_all rfl) ?_
              replace hf := zf_be hf
              obtain ⟨_, ho, hf⟩ := hf
              replace hf := zf_b3e hf
              obtain ⟨v10, h11, hv, hf⟩ | ⟨E12, h11, hv, hf⟩ := hf
              rotate_left
              · cases hf; exact zv_cx zq_203 zo_203 rfl rfl rfl rfl rfl (zv_cv rfl rfl rfl (zf_ise ho) rfl) (t_f_ColumnVault_kind _ _ _ _ _ _ hv) rfl
              refine zv_c zq_203 zo_203 rfl rfl rfl rfl rfl (zv_cv rfl rfl rfl (zf_ise ho) rfl) (t_f_ColumnVault_kind _ _ _ _ _ _ hv) ?_
              refine zv_p (k := 2) (f' := (286, [(16, .long v7), (14, .long v3), (0, .ref p0), (1, .ref p1), (2, .int p2), (3, .int p3), (4, .int p4), (5, .int p5), (6, .int p6), (7, .int p7), (10, .ref p8), (12, .ref p9), (13, .int p10)], [.long v7, .long v3, .int v10])) zq_203 zo_203 (by with_unfolding_all rfl) ?_
              replace hf := zf_b2e hf
              obtain ⟨v13, h14, hv, hf⟩ := hf
              refine zv_c zq_203 zo_203 rfl rfl rfl rfl rfl rfl (t_f_ColumnVaultLaw_than _ _ _ _ _ _ hv) ?_
              refine zv_pick (lv' := [(0, .ref p0), (1, .ref p1), (2, .int p2), (3, .int p3), (4, .int p4), (5, .int p5), (6, .int p6), (7, .int p7), (10, .ref p8), (12, .ref p9), (13, .int p10)]) [0, 1, 2, 3, 4, 5, 6, 7, 10, 12, 13] rfl rfl ?_
              exact t_f_ColumnVaultLaw_isSorted_289 hk10 ih _ _ _ _ _ _ _ _ _ _ _ _ _ _ _ hf
            · refine zv_brF (off := 21) (tt := 275) (r := []) zq_203 zo_203 hc rfl rfl rfl ?_
              refine zv_p (k := 3) (f' := (261, [(16, .long v7), (14, .long v3), (0, .ref p0), (1, .ref p1), (2, .int p2), (3, .int p3), (4, .int p4), (5, .int p5), (6, .int p6), (7, .int p7), (10, .ref p8), (12, .ref p9), (13, .int p10)], [.int p5, .int p2, .ref p0])) zq_203 zo_203 (by with_unfolding_all rfl) ?_
              replace hf := zf_be hf
              obtain ⟨_, ho, hf⟩ := hf
              replace hf := zf_b3e hf
              obtain ⟨v15, h16, hv, hf⟩ | ⟨E17, h16, hv, hf⟩ := hf
              rotate_left
              · cases hf; exact zv_cx zq_203 zo_203 rfl rfl rfl rfl rfl (zv_cv rfl rfl rfl (zf_ise ho) rfl) (t_f_ColumnVault_kind _ _ _ _ _ _ hv) rfl
              refine zv_c zq_203 zo_203 rfl rfl rfl rfl rfl (zv_cv rfl rfl rfl (zf_ise ho) rfl) (t_f_ColumnVault_kind _ _ _ _ _ _ hv) ?_
              refine zv_p (k := 2) (f' := (268, [(16, .long v7), (14, .long v3), (0, .ref p0), (1, .ref p1), (2, .int p2), (3, .int p3), (4, .int p4), (5, .int p5), (6, .int p6), (7, .int p7), (10, .ref p8), (12, .ref p9), (13, .int p10)], [.long v7, .long v3, .int v15])) zq_203 zo_203 (by with_unfolding_all rfl) ?_
              replace hf := zf_b2e hf
              obtain ⟨v18, h19, hv, hf⟩ := hf
              refine zv_c zq_203 zo_203 rfl rfl rfl rfl rfl rfl (t_f_ColumnVaultLaw_than _ _ _ _ _ _ hv) ?_
              refine zv_p (k := 2) (f' := (289, [(16, .long v7), (14, .long v3), (0, .ref p0), (1, .ref p1), (2, .int p2), (3, .int p3), (4, .int p4), (5, .int p5), (6, .int p6), (7, .int p7), (10, .ref p8), (12, .ref p9), (13, .int p10)], [.int (-v18)])) zq_203 zo_203 (by with_unfolding_all rfl) ?_
              refine zv_pick (lv' := [(0, .ref p0), (1, .ref p1), (2, .int p2), (3, .int p3), (4, .int p4), (5, .int p5), (6, .int p6), (7, .int p7), (10, .ref p8), (12, .ref p9), (13, .int p10)]) [0, 1, 2, 3, 4, 5, 6, 7, 10, 12, 13] rfl rfl ?_
              exact t_f_ColumnVaultLaw_isSorted_289 hk10 ih _ _ _ _ _ _ _ _ _ _ _ _ _ _ _ hf
          · refine zv_brF (off := 16) (tt := 252) (r := []) zq_203 zo_203 (mt zl_ne.mp hc) rfl rfl rfl ?_
            refine zv_p (k := 1) (f' := (241, [(16, .long v7), (14, .long v3), (0, .ref p0), (1, .ref p1), (2, .int p2), (3, .int p3), (4, .int p4), (5, .int p5), (6, .int p6), (7, .int p7), (10, .ref p8), (12, .ref p9), (13, .int p10)], [.int p7])) zq_203 zo_203 (by with_unfolding_all rfl) ?_
            replace hf := zf_ite hf
            obtain ⟨hc, hf⟩ | ⟨hc, hf⟩ := hf
            · refine zv_brT (off := 7) (tt := 248) (r := []) zq_203 zo_203 hc rfl rfl rfl ?_
              refine zv_p (k := 2) (f' := (289, [(16, .long v7), (14, .long v3), (0, .ref p0), (1, .ref p1), (2, .int p2), (3, .int p3), (4, .int p4), (5, .int p5), (6, .int p6), (7, .int p7), (10, .ref p8), (12, .ref p9), (13, .int p10)], [.int (-1 : Int32)])) zq_203 zo_203 (by with_unfolding_all rfl) ?_
              refine zv_pick (lv' := [(0, .ref p0), (1, .ref p1), (2, .int p2), (3, .int p3), (4, .int p4), (5, .int p5), (6, .int p6), (7, .int p7), (10, .ref p8), (12, .ref p9), (13, .int p10)]) [0, 1, 2, 3, 4, 5, 6, 7, 10, 12, 13] rfl rfl ?_
              exact t_f_ColumnVaultLaw_isSorted_289 hk10 ih _ _ _ _ _ _ _ _ _ _ _ _ _ _ _ hf
            · refine zv_brF (off := 7) (tt := 248) (r := []) zq_203 zo_203 hc rfl rfl rfl ?_
              refine zv_p (k := 2) (f' := (289, [(16, .long v7), (14, .long v3), (0, .ref p0), (1, .ref p1), (2, .int p2), (3, .int p3), (4, .int p4), (5, .int p5), (6, .int p6), (7, .int p7), (10, .ref p8), (12, .ref p9), (13, .int p10)], [.int (1 : Int32)])) zq_203 zo_203 (by with_unfolding_all rfl) ?_
              refine zv_pick (lv' := [(0, .ref p0), (1, .ref p1), (2, .int p2), (3, .int p3), (4, .int p4), (5, .int p5), (6, .int p6), (7, .int p7), (10, .ref p8), (12, .ref p9), (13, .int p10)]) [0, 1, 2, 3, 4, 5, 6, 7, 10, 12, 13] rfl rfl ?_
              exact t_f_ColumnVaultLaw_isSorted_289 hk10 ih _ _ _ _ _ _ _ _ _ _ _ _ _ _ _ hf
        · refine zv_brF (off := 16) (tt := 230) (r := []) zq_203 zo_203 (mt zl_ne.mp hc) rfl rfl rfl ?_
          refine zv_p (k := 1) (f' := (219, [(16, .long v7), (14, .long v3), (0, .ref p0), (1, .ref p1), (2, .int p2), (3, .int p3), (4, .int p4), (5, .int p5), (6, .int p6), (7, .int p7), (10, .ref p8), (12, .ref p9), (13, .int p10)], [.int p7])) zq_203 zo_203 (by with_unfolding_all rfl) ?_
          replace hf := zf_ite hf
          obtain ⟨hc, hf⟩ | ⟨hc, hf⟩ := hf
          · refine zv_brT (off := 7) (tt := 226) (r := []) zq_203 zo_203 hc rfl rfl rfl ?_
            refine zv_p (k := 2) (f' := (289, [(16, .long v7), (14, .long v3), (0, .ref p0), (1, .ref p1), (2, .int p2), (3, .int p3), (4, .int p4), (5, .int p5), (6, .int p6), (7, .int p7), (10, .ref p8), (12, .ref p9), (13, .int p10)], [.int (1 : Int32)])) zq_203 zo_203 (by with_unfolding_all rfl) ?_
            refine zv_pick (lv' := [(0, .ref p0), (1, .ref p1), (2, .int p2), (3, .int p3), (4, .int p4), (5, .int p5), (6, .int p6), (7, .int p7), (10, .ref p8), (12, .ref p9), (13, .int p10)]) [0, 1, 2, 3, 4, 5, 6, 7, 10, 12, 13] rfl rfl ?_
            exact t_f_ColumnVaultLaw_isSorted_289 hk10 ih _ _ _ _ _ _ _ _ _ _ _ _ _ _ _ hf
          · refine zv_brF (off := 7) (tt := 226) (r := []) zq_203 zo_203 hc rfl rfl rfl ?_
            refine zv_p (k := 2) (f' := (289, [(16, .long v7), (14, .long v3), (0, .ref p0), (1, .ref p1), (2, .int p2), (3, .int p3), (4, .int p4), (5, .int p5), (6, .int p6), (7, .int p7), (10, .ref p8), (12, .ref p9), (13, .int p10)], [.int (-1 : Int32)])) zq_203 zo_203 (by with_unfolding_all rfl) ?_
            refine zv_pick (lv' := [(0, .ref p0), (1, .ref p1), (2, .int p2), (3, .int p3), (4, .int p4), (5, .int p5), (6, .int p6), (7, .int p7), (10, .ref p8), (12, .ref p9), (13, .int p10)]) [0, 1, 2, 3, 4, 5, 6, 7, 10, 12, 13] rfl rfl ?_
            exact t_f_ColumnVaultLaw_isSorted_289 hk10 ih _ _ _ _ _ _ _ _ _ _ _ _ _ _ _ hf
      · refine zv_brF (off := 7) (tt := 208) (r := []) zq_203 zo_203 (mt zl_ne.mp hc) rfl rfl rfl ?_
        refine zv_p (k := 2) (f' := (289, [(16, .long v7), (14, .long v3), (0, .ref p0), (1, .ref p1), (2, .int p2), (3, .int p3), (4, .int p4), (5, .int p5), (6, .int p6), (7, .int p7), (10, .ref p8), (12, .ref p9), (13, .int p10)], [.int (0 : Int32)])) zq_203 zo_203 (by with_unfolding_all rfl) ?_
        refine zv_pick (lv' := [(0, .ref p0), (1, .ref p1), (2, .int p2), (3, .int p3), (4, .int p4), (5, .int p5), (6, .int p6), (7, .int p7), (10, .ref p8), (12, .ref p9), (13, .int p10)]) [0, 1, 2, 3, 4, 5, 6, 7, 10, 12, 13] rfl rfl ?_
        exact t_f_ColumnVaultLaw_isSorted_289 hk10 ih _ _ _ _ _ _ _ _ _ _ _ _ _ _ _ hf
set_option maxHeartbeats 1000000 in
def f_ColumnVaultLaw_isSorted_93 (k10 : Nat → Nat → Int32 → Int32 → Int32 → zx_H → Option ((Int32 ⊕ Nat) × zx_H)) : Nat → Nat → Nat → Int32 → Int32 → Int32 → Int32 → Int32 → Int32 → Nat → Int32 → Nat → Int32 → Nat → Int32 → zx_H → Option ((Int32 ⊕ Nat) × zx_H)
  | 0, _, _, _, _, _, _, _, _, _, _, _, _, _, _, _ => none
  | n + 1, p0, p1, p2, p3, p4, p5, p6, p7, p8, p9, p10, p11, p12, p13, h =>
    zf_b (zf_len p8 h) fun v1 =>
    if v1 ≤ p13 then
      if ¬ p9 = p11 then
        some (.inl (0 : Int32), h)
      else
        if ¬ p9 = (1 : Int32) then
          f_ColumnVaultLaw_isSorted_158 k10 zF p0 p1 p2 p3 p4 p5 p6 p7 p10 p12 (1 : Int32) h
        else
          some (.inl (0 : Int32), h)
    else
      zf_b (zf_ldI p8 p13 h) fun v2 =>
      zf_b (zf_stI p12 v2 p13 h) fun h3 =>
      zf_b (zf_ldI p8 p13 h3) fun v4 =>
      zf_b (zf_ldI p10 p13 h3) fun v5 =>
      if v4 = v5 then
        (f_ColumnVaultLaw_isSorted_93 k10 n) p0 p1 p2 p3 p4 p5 p6 p7 p8 p9 p10 (p11 + (0 : Int32)) p12 (p13 + (1 : Int32)) h3
      else
        (f_ColumnVaultLaw_isSorted_93 k10 n) p0 p1 p2 p3 p4 p5 p6 p7 p8 p9 p10 (p11 + (1 : Int32)) p12 (p13 + (1 : Int32)) h3
set_option maxHeartbeats 4000000 in
set_option maxRecDepth 400000 in
theorem t_f_ColumnVaultLaw_isSorted_93 {sc : (Nat × (Nat → Int32)) × Bool} {d : Nat} {k10 : Nat → Nat → Int32 → Int32 → Int32 → zx_H → Option ((Int32 ⊕ Nat) × zx_H)} (hk10 : ∀ (a0 : Nat) (a1 : Nat) (a2 : Int32) (a3 : Int32) (a4 : Int32) (h : zx_H) (r : (Int32 ⊕ Nat)) (h' : zx_H), k10 a0 a1 a2 a3 a4 h = some (r, h') → zx_T sc (d + 8) 203 (10, [(0, .ref a0), (1, .ref a1), (2, .int a2), (3, .int a3), (4, .int a4)], []) h (zf_oIx r) h') : ∀ (n : Nat) (p0 : Nat) (p1 : Nat) (p2 : Int32) (p3 : Int32) (p4 : Int32) (p5 : Int32) (p6 : Int32) (p7 : Int32) (p8 : Nat) (p9 : Int32) (p10 : Nat) (p11 : Int32) (p12 : Nat) (p13 : Int32) (h : zx_H) (r : (Int32 ⊕ Nat)) (h' : zx_H), f_ColumnVaultLaw_isSorted_93 k10 n p0 p1 p2 p3 p4 p5 p6 p7 p8 p9 p10 p11 p12 p13 h = some (r, h') → zx_T sc (d + 8) 203 (93, [(0, .ref p0), (1, .ref p1), (2, .int p2), (3, .int p3), (4, .int p4), (5, .int p5), (6, .int p6), (7, .int p7), (8, .ref p8), (9, .int p9), (10, .ref p10), (11, .int p11), (12, .ref p12), (13, .int p13)], []) h (zf_oIx r) h' := by
  intro n
  induction n with
  | zero => intro p0 p1 p2 p3 p4 p5 p6 p7 p8 p9 p10 p11 p12 p13 h r h' hf; cases hf
  | succ n ih =>
    intro p0 p1 p2 p3 p4 p5 p6 p7 p8 p9 p10 p11 p12 p13 h r h' hf
    unfold f_ColumnVaultLaw_isSorted_93 at hf
    refine zv_p (k := 2) (f' := (97, [(0, .ref p0), (1, .ref p1), (2, .int p2), (3, .int p3), (4, .int p4), (5, .int p5), (6, .int p6), (7, .int p7), (8, .ref p8), (9, .int p9), (10, .ref p10), (11, .int p11), (12, .ref p12), (13, .int p13)], [.ref p8, .int p13])) zq_203 zo_203 (by with_unfolding_all rfl) ?_
    replace hf := zf_be hf
    obtain ⟨v1, hv, hf⟩ := hf
    refine zv_len zq_203 zo_203 rfl hv ?_
    replace hf := zf_ite hf
    obtain ⟨hc, hf⟩ | ⟨hc, hf⟩ := hf
    · refine zv_brT (off := 42) (tt := 140) (r := []) zq_203 zo_203 hc rfl rfl rfl ?_
      refine zv_p (k := 2) (f' := (144, [(0, .ref p0), (1, .ref p1), (2, .int p2), (3, .int p3), (4, .int p4), (5, .int p5), (6, .int p6), (7, .int p7), (8, .ref p8), (9, .int p9), (10, .ref p10), (11, .int p11), (12, .ref p12), (13, .int p13)], [.int p11, .int p9])) zq_203 zo_203 (by with_unfolding_all rfl) ?_
      replace hf := zf_ite hf
      obtain ⟨hc, hf⟩ | ⟨hc, hf⟩ := hf
      · refine zv_brT (off := 9) (tt := 153) (r := []) zq_203 zo_203 hc rfl rfl rfl ?_
        refine zv_p (k := 1) (f' := (154, [(0, .ref p0), (1, .ref p1), (2, .int p2), (3, .int p3), (4, .int p4), (5, .int p5), (6, .int p6), (7, .int p7), (8, .ref p8), (9, .int p9), (10, .ref p10), (11, .int p11), (12, .ref p12), (13, .int p13)], [.int (0 : Int32)])) zq_203 zo_203 (by with_unfolding_all rfl) ?_
        cases hf
        exact zv_rn zq_203 zo_203 rfl rfl
      · refine zv_brF (off := 9) (tt := 153) (r := []) zq_203 zo_203 hc rfl rfl rfl ?_
        refine zv_p (k := 2) (f' := (150, [(0, .ref p0), (1, .ref p1), (2, .int p2), (3, .int p3), (4, .int p4), (5, .int p5), (6, .int p6), (7, .int p7), (8, .ref p8), (9, .int p9), (10, .ref p10), (11, .int p11), (12, .ref p12), (13, .int p13)], [.int (1 : Int32), .int p9])) zq_203 zo_203 (by with_unfolding_all rfl) ?_
        replace hf := zf_ite hf
        obtain ⟨hc, hf⟩ | ⟨hc, hf⟩ := hf
        · refine zv_brT (off := 5) (tt := 155) (r := []) zq_203 zo_203 hc rfl rfl rfl ?_
          refine zv_p (k := 2) (f' := (158, [(13, .int (1 : Int32)), (0, .ref p0), (1, .ref p1), (2, .int p2), (3, .int p3), (4, .int p4), (5, .int p5), (6, .int p6), (7, .int p7), (8, .ref p8), (9, .int p9), (10, .ref p10), (11, .int p11), (12, .ref p12)], [])) zq_203 zo_203 (by with_unfolding_all rfl) ?_
          refine zv_pick (lv' := [(0, .ref p0), (1, .ref p1), (2, .int p2), (3, .int p3), (4, .int p4), (5, .int p5), (6, .int p6), (7, .int p7), (10, .ref p10), (12, .ref p12), (13, .int (1 : Int32))]) [0, 1, 2, 3, 4, 5, 6, 7, 10, 12, 13] rfl rfl ?_
          exact t_f_ColumnVaultLaw_isSorted_158 hk10 zF _ _ _ _ _ _ _ _ _ _ _ _ _ _ hf
        · refine zv_brF (off := 5) (tt := 155) (r := []) zq_203 zo_203 hc rfl rfl rfl ?_
          refine zv_p (k := 1) (f' := (154, [(0, .ref p0), (1, .ref p1), (2, .int p2), (3, .int p3), (4, .int p4), (5, .int p5), (6, .int p6), (7, .int p7), (8, .ref p8), (9, .int p9), (10, .ref p10), (11, .int p11), (12, .ref p12), (13, .int p13)], [.int (0 : Int32)])) zq_203 zo_203 (by with_unfolding_all rfl) ?_
          cases hf
          exact zv_rn zq_203 zo_203 rfl rfl
    · refine zv_brF (off := 42) (tt := 140) (r := []) zq_203 zo_203 hc rfl rfl rfl ?_
      refine zv_p (k := 3) (f' := (107, [(0, .ref p0), (1, .ref p1), (2, .int p2), (3, .int p3), (4, .int p4), (5, .int p5), (6, .int p6), (7, .int p7), (8, .ref p8), (9, .int p9), (10, .ref p10), (11, .int p11), (12, .ref p12), (13, .int p13)], [.int p13, .ref p8, .ref p12])) zq_203 zo_203 (by with_unfolding_all rfl) ?_
      replace hf := zf_be hf
      obtain ⟨v2, hv, hf⟩ := hf
      refine zv_ldI zq_203 zo_203 rfl hv ?_
      refine zv_p (k := 1) (f' := (110, [(0, .ref p0), (1, .ref p1), (2, .int p2), (3, .int p3), (4, .int p4), (5, .int p5), (6, .int p6), (7, .int p7), (8, .ref p8), (9, .int p9), (10, .ref p10), (11, .int p11), (12, .ref p12), (13, .int p13)], [.int p13, .int v2, .ref p12])) zq_203 zo_203 (by with_unfolding_all rfl) ?_
      replace hf := zf_be hf
      obtain ⟨h3, hv, hf⟩ := hf
      refine zv_stI zq_203 zo_203 rfl hv ?_
      refine zv_p (k := 3) (f' := (117, [(0, .ref p0), (1, .ref p1), (2, .int p2), (3, .int p3), (4, .int p4), (5, .int p5), (6, .int p6), (7, .int p7), (8, .ref p8), (9, .int p9), (10, .ref p10), (11, .int p11), (12, .ref p12), (13, .int p13)], [.int p13, .ref p8, .int p11])) zq_203 zo_203 (by with_unfolding_all rfl) ?_
      replace hf := zf_be hf
      obtain ⟨v4, hv, hf⟩ := hf
      refine zv_ldI zq_203 zo_203 rfl hv ?_
      refine zv_p (k := 2) (f' := (122, [(0, .ref p0), (1, .ref p1), (2, .int p2), (3, .int p3), (4, .int p4), (5, .int p5), (6, .int p6), (7, .int p7), (8, .ref p8), (9, .int p9), (10, .ref p10), (11, .int p11), (12, .ref p12), (13, .int p13)], [.int p13, .ref p10, .int v4, .int p11])) zq_203 zo_203 (by with_unfolding_all rfl) ?_
      replace hf := zf_be hf
      obtain ⟨v5, hv, hf⟩ := hf
      refine zv_ldI zq_203 zo_203 rfl hv ?_
      replace hf := zf_ite hf
      obtain ⟨hc, hf⟩ | ⟨hc, hf⟩ := hf
      · refine zv_brT (off := 7) (tt := 130) (r := [.int p11]) zq_203 zo_203 hc rfl rfl rfl ?_
        refine zv_p (k := 5) (f' := (93, [(13, .int (p13 + (1 : Int32))), (11, .int (p11 + (0 : Int32))), (0, .ref p0), (1, .ref p1), (2, .int p2), (3, .int p3), (4, .int p4), (5, .int p5), (6, .int p6), (7, .int p7), (8, .ref p8), (9, .int p9), (10, .ref p10), (12, .ref p12)], [])) zq_203 zo_203 (by with_unfolding_all rfl) ?_
        refine zv_pick (lv' := [(0, .ref p0), (1, .ref p1), (2, .int p2), (3, .int p3), (4, .int p4), (5, .int p5), (6, .int p6), (7, .int p7), (8, .ref p8), (9, .int p9), (10, .ref p10), (11, .int (p11 + (0 : Int32))), (12, .ref p12), (13, .int (p13 + (1 : Int32)))]) [0, 1, 2, 3, 4, 5, 6, 7, 8, 9, 10, 11, 12, 13] rfl rfl ?_
        exact ih _ _ _ _ _ _ _ _ _ _ _ _ _ _ _ _ _ hf
      · refine zv_brF (off := 7) (tt := 130) (r := [.int p11]) zq_203 zo_203 hc rfl rfl rfl ?_
        refine zv_p (k := 6) (f' := (93, [(13, .int (p13 + (1 : Int32))), (11, .int (p11 + (1 : Int32))), (0, .ref p0), (1, .ref p1), (2, .int p2), (3, .int p3), (4, .int p4), (5, .int p5), (6, .int p6), (7, .int p7), (8, .ref p8), (9, .int p9), (10, .ref p10), (12, .ref p12)], [])) zq_203 zo_203 (by with_unfolding_all rfl) ?_
        refine zv_pick (lv' := [(0, .ref p0), (1, .ref p1), (2, .int p2), (3, .int p3), (4, .int p4), (5, .int p5), (6, .int p6), (7, .int p7), (8, .ref p8), (9, .int p9), (10, .ref p10), (11, .int (p11 + (1 : Int32))), (12, .ref p12), (13, .int (p13 + (1 : Int32)))]) [0, 1, 2, 3, 4, 5, 6, 7, 8, 9, 10, 11, 12, 13] rfl rfl ?_
        exact ih _ _ _ _ _ _ _ _ _ _ _ _ _ _ _ _ _ hf
set_option maxHeartbeats 1000000 in
def f_ColumnVaultLaw_isSorted_51 (k10 : Nat → Nat → Int32 → Int32 → Int32 → zx_H → Option ((Int32 ⊕ Nat) × zx_H)) (p0 : Nat) (p1 : Nat) (p2 : Int32) (p3 : Int32) (p4 : Int32) (p5 : Int32) (p6 : Int32) (p7 : Int32) (h : zx_H) : Option ((Int32 ⊕ Nat) × zx_H) :=
  zf_b3 (f_ColumnVaultLaw_order p0 p2 h) fun v1 h2 =>
  zf_b (zf_is 12 p0 h2) fun _ =>
  zf_b3 (f_ColumnVault_sort p0 p2 p5 p6 p7 h2) fun v4 h5 =>
  zf_b3 (f_ColumnVaultLaw_order p0 p2 h5) fun v7 h8 =>
  zf_b (zf_len v7 h8) fun v10 =>
  zf_b2 (zf_newa .int 1 v10 h8) fun q11 h12 =>
  f_ColumnVaultLaw_isSorted_93 k10 zF p0 p1 p2 p3 p4 p5 p6 p7 v1 v4 v7 (0 : Int32) q11 (0 : Int32) h12
set_option maxHeartbeats 4000000 in
set_option maxRecDepth 400000 in
theorem t_f_ColumnVaultLaw_isSorted_51 {sc : (Nat × (Nat → Int32)) × Bool} {d : Nat} {k10 : Nat → Nat → Int32 → Int32 → Int32 → zx_H → Option ((Int32 ⊕ Nat) × zx_H)} (hk10 : ∀ (a0 : Nat) (a1 : Nat) (a2 : Int32) (a3 : Int32) (a4 : Int32) (h : zx_H) (r : (Int32 ⊕ Nat)) (h' : zx_H), k10 a0 a1 a2 a3 a4 h = some (r, h') → zx_T sc (d + 8) 203 (10, [(0, .ref a0), (1, .ref a1), (2, .int a2), (3, .int a3), (4, .int a4)], []) h (zf_oIx r) h') (p0 : Nat) (p1 : Nat) (p2 : Int32) (p3 : Int32) (p4 : Int32) (p5 : Int32) (p6 : Int32) (p7 : Int32) (h : zx_H) (r : (Int32 ⊕ Nat)) (h' : zx_H) (hf : f_ColumnVaultLaw_isSorted_51 k10 p0 p1 p2 p3 p4 p5 p6 p7 h = some (r, h')) : zx_T sc (d + 8) 203 (51, [(0, .ref p0), (1, .ref p1), (2, .int p2), (3, .int p3), (4, .int p4), (5, .int p5), (6, .int p6)], [.int p7]) h (zf_oIx r) h' := by
  unfold f_ColumnVaultLaw_isSorted_51 at hf
  refine zv_p (k := 3) (f' := (55, [(7, .int p7), (0, .ref p0), (1, .ref p1), (2, .int p2), (3, .int p3), (4, .int p4), (5, .int p5), (6, .int p6)], [.int p2, .ref p0])) zq_203 zo_203 (by with_unfolding_all rfl) ?_
  replace hf := zf_b3e hf
  obtain ⟨v1, h2, hv, hf⟩ | ⟨E3, h2, hv, hf⟩ := hf
  rotate_left
  · cases hf; exact zv_cx zq_203 zo_203 rfl rfl rfl rfl rfl rfl (t_f_ColumnVaultLaw_order _ _ _ _ _ hv) rfl
  refine zv_c zq_203 zo_203 rfl rfl rfl rfl rfl rfl (t_f_ColumnVaultLaw_order _ _ _ _ _ hv) ?_
  refine zv_p (k := 6) (f' := (68, [(8, .ref v1), (7, .int p7), (0, .ref p0), (1, .ref p1), (2, .int p2), (3, .int p3), (4, .int p4), (5, .int p5), (6, .int p6)], [.int p7, .int p6, .int p5, .int p2, .ref p0])) zq_203 zo_203 (by with_unfolding_all rfl) ?_
  replace hf := zf_be hf
  obtain ⟨_, ho, hf⟩ := hf
  replace hf := zf_b3e hf
  obtain ⟨v4, h5, hv, hf⟩ | ⟨E6, h5, hv, hf⟩ := hf
  rotate_left
  · cases hf; exact zv_cx zq_203 zo_203 rfl rfl rfl rfl rfl (zv_cv rfl rfl rfl (zf_ise ho) rfl) (t_f_ColumnVault_sort _ _ _ _ _ _ _ _ hv) rfl
  refine zv_c zq_203 zo_203 rfl rfl rfl rfl rfl (zv_cv rfl rfl rfl (zf_ise ho) rfl) (t_f_ColumnVault_sort _ _ _ _ _ _ _ _ hv) ?_
  refine zv_p (k := 3) (f' := (75, [(9, .int v4), (8, .ref v1), (7, .int p7), (0, .ref p0), (1, .ref p1), (2, .int p2), (3, .int p3), (4, .int p4), (5, .int p5), (6, .int p6)], [.int p2, .ref p0])) zq_203 zo_203 (by with_unfolding_all rfl) ?_
  replace hf := zf_b3e hf
  obtain ⟨v7, h8, hv, hf⟩ | ⟨E9, h8, hv, hf⟩ := hf
  rotate_left
  · cases hf; exact zv_cx zq_203 zo_203 rfl rfl rfl rfl rfl rfl (t_f_ColumnVaultLaw_order _ _ _ _ _ hv) rfl
  refine zv_c zq_203 zo_203 rfl rfl rfl rfl rfl rfl (t_f_ColumnVaultLaw_order _ _ _ _ _ hv) ?_
  refine zv_p (k := 4) (f' := (85, [(11, .int (0 : Int32)), (10, .ref v7), (9, .int v4), (8, .ref v1), (7, .int p7), (0, .ref p0), (1, .ref p1), (2, .int p2), (3, .int p3), (4, .int p4), (5, .int p5), (6, .int p6)], [.ref v7])) zq_203 zo_203 (by with_unfolding_all rfl) ?_
  replace hf := zf_be hf
  obtain ⟨v10, hv, hf⟩ := hf
  refine zv_len zq_203 zo_203 rfl hv ?_
  replace hf := zf_b2e hf
  obtain ⟨q11, h12, hv, hf⟩ := hf
  refine zv_newa zq_203 zo_203 rfl rfl hv ?_
  refine zv_p (k := 3) (f' := (93, [(13, .int (0 : Int32)), (12, .ref q11), (11, .int (0 : Int32)), (10, .ref v7), (9, .int v4), (8, .ref v1), (7, .int p7), (0, .ref p0), (1, .ref p1), (2, .int p2), (3, .int p3), (4, .int p4), (5, .int p5), (6, .int p6)], [])) zq_203 zo_203 (by with_unfolding_all rfl) ?_
  refine zv_pick (lv' := [(0, .ref p0), (1, .ref p1), (2, .int p2), (3, .int p3), (4, .int p4), (5, .int p5), (6, .int p6), (7, .int p7), (8, .ref v1), (9, .int v4), (10, .ref v7), (11, .int (0 : Int32)), (12, .ref q11), (13, .int (0 : Int32))]) [0, 1, 2, 3, 4, 5, 6, 7, 8, 9, 10, 11, 12, 13] rfl rfl ?_
  exact t_f_ColumnVaultLaw_isSorted_93 hk10 zF _ _ _ _ _ _ _ _ _ _ _ _ _ _ _ _ _ hf
set_option maxHeartbeats 1000000 in
def f_ColumnVaultLaw_isSorted_10 : Nat → Nat → Nat → Int32 → Int32 → Int32 → zx_H → Option ((Int32 ⊕ Nat) × zx_H)
  | 0, _, _, _, _, _, _ => none
  | n + 1, p0, p1, p2, p3, p4, h =>
    if (2 : Int32) ≤ p4 then
      zf_b (zf_is 12 p0 h) fun _ =>
      zf_b3 (f_ColumnVault_errors p0 p2 h) fun v1 h2 =>
      if ¬ v1 = 0 then
        some (.inl (0 : Int32), h2)
      else
        some (.inl (1 : Int32), h2)
    else
      zf_b2 (f_ColumnVaultLaw_draw p1 p3 h) fun v4 h5 =>
      zf_b2 (f_ColumnVaultLaw_draw p1 (2 : Int32) h5) fun v6 h7 =>
      if ¬ v6 = 0 then
        zf_b2 (f_ColumnVaultLaw_draw p1 (2 : Int32) h7) fun v8 h9 =>
        if ¬ v8 = 0 then
          f_ColumnVaultLaw_isSorted_51 (f_ColumnVaultLaw_isSorted_10 n) p0 p1 p2 p3 p4 v4 (0 : Int32) (0 : Int32) h9
        else
          f_ColumnVaultLaw_isSorted_51 (f_ColumnVaultLaw_isSorted_10 n) p0 p1 p2 p3 p4 v4 (0 : Int32) (1 : Int32) h9
      else
        zf_b2 (f_ColumnVaultLaw_draw p1 (2 : Int32) h7) fun v10 h11 =>
        if ¬ v10 = 0 then
          f_ColumnVaultLaw_isSorted_51 (f_ColumnVaultLaw_isSorted_10 n) p0 p1 p2 p3 p4 v4 (1 : Int32) (0 : Int32) h11
        else
          f_ColumnVaultLaw_isSorted_51 (f_ColumnVaultLaw_isSorted_10 n) p0 p1 p2 p3 p4 v4 (1 : Int32) (1 : Int32) h11
set_option maxHeartbeats 4000000 in
set_option maxRecDepth 400000 in
theorem t_f_ColumnVaultLaw_isSorted_10 {sc : (Nat × (Nat → Int32)) × Bool} {d : Nat} : ∀ (n : Nat) (p0 : Nat) (p1 : Nat) (p2 : Int32) (p3 : Int32) (p4 : Int32) (h : zx_H) (r : (Int32 ⊕ Nat)) (h' : zx_H), f_ColumnVaultLaw_isSorted_10 n p0 p1 p2 p3 p4 h = some (r, h') → zx_T sc (d + 8) 203 (10, [(0, .ref p0), (1, .ref p1), (2, .int p2), (3, .int p3), (4, .int p4)], []) h (zf_oIx r) h' := by
  intro n
  induction n with
  | zero => intro p0 p1 p2 p3 p4 h r h' hf; cases hf
  | succ n ih =>
    intro p0 p1 p2 p3 p4 h r h' hf
    unfold f_ColumnVaultLaw_isSorted_10 at hf
    refine zv_p (k := 2) (f' := (13, [(0, .ref p0), (1, .ref p1), (2, .int p2), (3, .int p3), (4, .int p4)], [.int (2 : Int32), .int p4])) zq_203 zo_203 (by with_unfolding_all rfl) ?_
    replace hf := zf_ite hf
    obtain ⟨hc, hf⟩ | ⟨hc, hf⟩ := hf
    · refine zv_brT (off := 323) (tt := 336) (r := []) zq_203 zo_203 hc rfl rfl rfl ?_
      refine zv_p (k := 2) (f' := (338, [(0, .ref p0), (1, .ref p1), (2, .int p2), (3, .int p3), (4, .int p4)], [.int p2, .ref p0])) zq_203 zo_203 (by with_unfolding_all rfl) ?_
      replace hf := zf_be hf
      obtain ⟨_, ho, hf⟩ := hf
      replace hf := zf_b3e hf
      obtain ⟨v1, h2, hv, hf⟩ | ⟨E3, h2, hv, hf⟩ := hf
      rotate_left
      · cases hf; exact zv_cx zq_203 zo_203 rfl rfl rfl rfl rfl (zv_cv rfl rfl rfl (zf_ise ho) rfl) (t_f_ColumnVault_errors _ _ _ _ _ hv) rfl
      refine zv_c zq_203 zo_203 rfl rfl rfl rfl rfl (zv_cv rfl rfl rfl (zf_ise ho) rfl) (t_f_ColumnVault_errors _ _ _ _ _ hv) ?_
      replace hf := zf_ite hf
      obtain ⟨hc, hf⟩ | ⟨hc, hf⟩ := hf
      · refine zv_brT (off := 7) (tt := 348) (r := []) zq_203 zo_203 hc rfl rfl rfl ?_
        refine zv_p (k := 1) (f' := (349, [(0, .ref p0), (1, .ref p1), (2, .int p2), (3, .int p3), (4, .int p4)], [.int (0 : Int32)])) zq_203 zo_203 (by with_unfolding_all rfl) ?_
        cases hf
        exact zv_rn zq_203 zo_203 rfl rfl
      · refine zv_brF (off := 7) (tt := 348) (r := []) zq_203 zo_203 hc rfl rfl rfl ?_
        refine zv_p (k := 2) (f' := (349, [(0, .ref p0), (1, .ref p1), (2, .int p2), (3, .int p3), (4, .int p4)], [.int (1 : Int32)])) zq_203 zo_203 (by with_unfolding_all rfl) ?_
        cases hf
        exact zv_rn zq_203 zo_203 rfl rfl
    · refine zv_brF (off := 323) (tt := 336) (r := []) zq_203 zo_203 hc rfl rfl rfl ?_
      refine zv_p (k := 2) (f' := (18, [(0, .ref p0), (1, .ref p1), (2, .int p2), (3, .int p3), (4, .int p4)], [.int p3, .ref p1])) zq_203 zo_203 (by with_unfolding_all rfl) ?_
      replace hf := zf_b2e hf
      obtain ⟨v4, h5, hv, hf⟩ := hf
      refine zv_c zq_203 zo_203 rfl rfl rfl rfl rfl rfl (t_f_ColumnVaultLaw_draw _ _ _ _ _ hv) ?_
      refine zv_p (k := 3) (f' := (25, [(5, .int v4), (0, .ref p0), (1, .ref p1), (2, .int p2), (3, .int p3), (4, .int p4)], [.int (2 : Int32), .ref p1])) zq_203 zo_203 (by with_unfolding_all rfl) ?_
      replace hf := zf_b2e hf
      obtain ⟨v6, h7, hv, hf⟩ := hf
      refine zv_c zq_203 zo_203 rfl rfl rfl rfl rfl rfl (t_f_ColumnVaultLaw_draw _ _ _ _ _ hv) ?_
      replace hf := zf_ite hf
      obtain ⟨hc, hf⟩ | ⟨hc, hf⟩ := hf
      · refine zv_brT (off := 7) (tt := 35) (r := []) zq_203 zo_203 hc rfl rfl rfl ?_
        refine zv_p (k := 4) (f' := (40, [(6, .int (0 : Int32)), (5, .int v4), (0, .ref p0), (1, .ref p1), (2, .int p2), (3, .int p3), (4, .int p4)], [.int (2 : Int32), .ref p1])) zq_203 zo_203 (by with_unfolding_all rfl) ?_
        replace hf := zf_b2e hf
        obtain ⟨v8, h9, hv, hf⟩ := hf
        refine zv_c zq_203 zo_203 rfl rfl rfl rfl rfl rfl (t_f_ColumnVaultLaw_draw _ _ _ _ _ hv) ?_
        replace hf := zf_ite hf
        obtain ⟨hc, hf⟩ | ⟨hc, hf⟩ := hf
        · refine zv_brT (off := 7) (tt := 50) (r := []) zq_203 zo_203 hc rfl rfl rfl ?_
          refine zv_p (k := 1) (f' := (51, [(6, .int (0 : Int32)), (5, .int v4), (0, .ref p0), (1, .ref p1), (2, .int p2), (3, .int p3), (4, .int p4)], [.int (0 : Int32)])) zq_203 zo_203 (by with_unfolding_all rfl) ?_
          refine zv_pick (lv' := [(0, .ref p0), (1, .ref p1), (2, .int p2), (3, .int p3), (4, .int p4), (5, .int v4), (6, .int (0 : Int32))]) [0, 1, 2, 3, 4, 5, 6] rfl rfl ?_
          exact t_f_ColumnVaultLaw_isSorted_51 ih _ _ _ _ _ _ _ _ _ _ _ hf
        · refine zv_brF (off := 7) (tt := 50) (r := []) zq_203 zo_203 hc rfl rfl rfl ?_
          refine zv_p (k := 2) (f' := (51, [(6, .int (0 : Int32)), (5, .int v4), (0, .ref p0), (1, .ref p1), (2, .int p2), (3, .int p3), (4, .int p4)], [.int (1 : Int32)])) zq_203 zo_203 (by with_unfolding_all rfl) ?_
          refine zv_pick (lv' := [(0, .ref p0), (1, .ref p1), (2, .int p2), (3, .int p3), (4, .int p4), (5, .int v4), (6, .int (0 : Int32))]) [0, 1, 2, 3, 4, 5, 6] rfl rfl ?_
          exact t_f_ColumnVaultLaw_isSorted_51 ih _ _ _ _ _ _ _ _ _ _ _ hf
      · refine zv_brF (off := 7) (tt := 35) (r := []) zq_203 zo_203 hc rfl rfl rfl ?_
        refine zv_p (k := 5) (f' := (40, [(6, .int (1 : Int32)), (5, .int v4), (0, .ref p0), (1, .ref p1), (2, .int p2), (3, .int p3), (4, .int p4)], [.int (2 : Int32), .ref p1])) zq_203 zo_203 (by with_unfolding_all rfl) ?_
        replace hf := zf_b2e hf
        obtain ⟨v10, h11, hv, hf⟩ := hf
        refine zv_c zq_203 zo_203 rfl rfl rfl rfl rfl rfl (t_f_ColumnVaultLaw_draw _ _ _ _ _ hv) ?_
        replace hf := zf_ite hf
        obtain ⟨hc, hf⟩ | ⟨hc, hf⟩ := hf
        · refine zv_brT (off := 7) (tt := 50) (r := []) zq_203 zo_203 hc rfl rfl rfl ?_
          refine zv_p (k := 1) (f' := (51, [(6, .int (1 : Int32)), (5, .int v4), (0, .ref p0), (1, .ref p1), (2, .int p2), (3, .int p3), (4, .int p4)], [.int (0 : Int32)])) zq_203 zo_203 (by with_unfolding_all rfl) ?_
          refine zv_pick (lv' := [(0, .ref p0), (1, .ref p1), (2, .int p2), (3, .int p3), (4, .int p4), (5, .int v4), (6, .int (1 : Int32))]) [0, 1, 2, 3, 4, 5, 6] rfl rfl ?_
          exact t_f_ColumnVaultLaw_isSorted_51 ih _ _ _ _ _ _ _ _ _ _ _ hf
        · refine zv_brF (off := 7) (tt := 50) (r := []) zq_203 zo_203 hc rfl rfl rfl ?_
          refine zv_p (k := 2) (f' := (51, [(6, .int (1 : Int32)), (5, .int v4), (0, .ref p0), (1, .ref p1), (2, .int p2), (3, .int p3), (4, .int p4)], [.int (1 : Int32)])) zq_203 zo_203 (by with_unfolding_all rfl) ?_
          refine zv_pick (lv' := [(0, .ref p0), (1, .ref p1), (2, .int p2), (3, .int p3), (4, .int p4), (5, .int v4), (6, .int (1 : Int32))]) [0, 1, 2, 3, 4, 5, 6] rfl rfl ?_
          exact t_f_ColumnVaultLaw_isSorted_51 ih _ _ _ _ _ _ _ _ _ _ _ hf
