set_option maxHeartbeats 1000000 in
def f_ColumnVaultLaw_test_281 : Nat → Nat → Int32 → Int32 → Int32 → Int32 → Int32 → Nat → Nat → Int32 → zx_H → Option ((Nat ⊕ Nat) × zx_H)
  | 0, _, _, _, _, _, _, _, _, _, _ => none
  | n + 1, p0, p1, p2, p3, p4, p5, p6, p7, p8, h =>
    zf_b (zf_len p7 h) fun v1 =>
    if v1 ≤ p8 then
      some (.inl p7, h)
    else
      zf_b (zf_is 12 p0 h) fun _ =>
      zf_b3 (f_ColumnVault_get p0 p1 p8 p2 h) fun v2 h3 =>
      if v2 = (-9000000000 : Int64) then
        f_ColumnVaultLaw_test_315 (f_ColumnVaultLaw_test_281 n) p0 p1 p2 p3 p4 p5 p6 p7 p8 v2 h3
      else
        if ¬ p4 = (5 : Int32) then
          zf_b (zf_ldJ p6 (0 : Int32) h3) fun v5 =>
          zf_b2 (f_ColumnVaultLaw_than p3 v2 v5 h3) fun v6 h7 =>
          if ¬ p4 = 0 then
            if ¬ p4 = (1 : Int32) then
              if ¬ p4 = (2 : Int32) then
                if ¬ p4 = (3 : Int32) then
                  zf_b (zf_stB p7 p8 (0 : Int32) h7) fun h8 =>
                  f_ColumnVaultLaw_test_450 (f_ColumnVaultLaw_test_281 n) zF p0 p1 p2 p3 p4 p5 p6 p7 p8 v2 (0 : Int32) h8
                else
                  if v6 < 0 then
                    zf_b (zf_stB p7 p8 (0 : Int32) h7) fun h9 =>
                    f_ColumnVaultLaw_test_450 (f_ColumnVaultLaw_test_281 n) zF p0 p1 p2 p3 p4 p5 p6 p7 p8 v2 (0 : Int32) h9
                  else
                    zf_b (zf_ldJ p6 (1 : Int32) h7) fun v10 =>
                    zf_b2 (f_ColumnVaultLaw_than p3 v2 v10 h7) fun v11 h12 =>
                    if 0 < v11 then
                      zf_b (zf_stB p7 p8 (0 : Int32) h12) fun h13 =>
                      f_ColumnVaultLaw_test_450 (f_ColumnVaultLaw_test_281 n) zF p0 p1 p2 p3 p4 p5 p6 p7 p8 v2 (0 : Int32) h13
                    else
                      zf_b (zf_stB p7 p8 (1 : Int32) h12) fun h14 =>
                      f_ColumnVaultLaw_test_450 (f_ColumnVaultLaw_test_281 n) zF p0 p1 p2 p3 p4 p5 p6 p7 p8 v2 (0 : Int32) h14
              else
                if ¬ v6 = 0 then
                  zf_b (zf_stB p7 p8 (0 : Int32) h7) fun h15 =>
                  f_ColumnVaultLaw_test_450 (f_ColumnVaultLaw_test_281 n) zF p0 p1 p2 p3 p4 p5 p6 p7 p8 v2 (0 : Int32) h15
                else
                  zf_b (zf_stB p7 p8 (1 : Int32) h7) fun h16 =>
                  f_ColumnVaultLaw_test_450 (f_ColumnVaultLaw_test_281 n) zF p0 p1 p2 p3 p4 p5 p6 p7 p8 v2 (0 : Int32) h16
            else
              if v6 ≤ 0 then
                zf_b (zf_stB p7 p8 (0 : Int32) h7) fun h17 =>
                f_ColumnVaultLaw_test_450 (f_ColumnVaultLaw_test_281 n) zF p0 p1 p2 p3 p4 p5 p6 p7 p8 v2 (0 : Int32) h17
              else
                zf_b (zf_stB p7 p8 (1 : Int32) h7) fun h18 =>
                f_ColumnVaultLaw_test_450 (f_ColumnVaultLaw_test_281 n) zF p0 p1 p2 p3 p4 p5 p6 p7 p8 v2 (0 : Int32) h18
          else
            if 0 ≤ v6 then
              zf_b (zf_stB p7 p8 (0 : Int32) h7) fun h19 =>
              f_ColumnVaultLaw_test_450 (f_ColumnVaultLaw_test_281 n) zF p0 p1 p2 p3 p4 p5 p6 p7 p8 v2 (0 : Int32) h19
            else
              zf_b (zf_stB p7 p8 (1 : Int32) h7) fun h20 =>
              f_ColumnVaultLaw_test_450 (f_ColumnVaultLaw_test_281 n) zF p0 p1 p2 p3 p4 p5 p6 p7 p8 v2 (0 : Int32) h20
        else
          f_ColumnVaultLaw_test_315 (f_ColumnVaultLaw_test_281 n) p0 p1 p2 p3 p4 p5 p6 p7 p8 v2 h3
set_option maxHeartbeats 4000000 in
set_option maxRecDepth 400000 in
theorem t_f_ColumnVaultLaw_test_281 {sc : (Nat × (Nat → Int32)) × Bool} {d : Nat} : ∀ (n : Nat) (p0 : Nat) (p1 : Int32) (p2 : Int32) (p3 : Int32) (p4 : Int32) (p5 : Int32) (p6 : Nat) (p7 : Nat) (p8 : Int32) (h : zx_H) (r : (Nat ⊕ Nat)) (h' : zx_H), f_ColumnVaultLaw_test_281 n p0 p1 p2 p3 p4 p5 p6 p7 p8 h = some (r, h') → zx_T sc (d + 8) 262 (281, [(1, .ref p0), (2, .int p1), (5, .int p2), (6, .int p3), (7, .int p4), (8, .int p5), (9, .ref p6), (10, .ref p7), (11, .int p8)], []) h (zf_oAx r) h' := by
  intro n
  induction n with
  | zero => intro p0 p1 p2 p3 p4 p5 p6 p7 p8 h r h' hf; cases hf
  | succ n ih =>
    intro p0 p1 p2 p3 p4 p5 p6 p7 p8 h r h' hf
    unfold f_ColumnVaultLaw_test_281 at hf
    refine zv_p (k := 2) (f' := (285, [(1, .ref p0), (2, .int p1), (5, .int p2), (6, .int p3), (7, .int p4), (8, .int p5), (9, .ref p6), (10, .ref p7), (11, .int p8)], [.ref p7, .int p8])) zq_262 zo_262 (by with_unfolding_all rfl) ?_
    replace hf := zf_be hf
    obtain ⟨v1, hv, hf⟩ := hf
    refine zv_len zq_262 zo_262 rfl hv ?_
    replace hf := zf_ite hf
    obtain ⟨hc, hf⟩ | ⟨hc, hf⟩ := hf
    · refine zv_brT (off := 213) (tt := 499) (r := []) zq_262 zo_262 hc rfl rfl rfl ?_
      refine zv_p (k := 1) (f' := (501, [(1, .ref p0), (2, .int p1), (5, .int p2), (6, .int p3), (7, .int p4), (8, .int p5), (9, .ref p6), (10, .ref p7), (11, .int p8)], [.ref p7])) zq_262 zo_262 (by with_unfolding_all rfl) ?_
      cases hf
      exact zv_r zq_262 zo_262 rfl rfl rfl rfl rfl
    · refine zv_brF (off := 213) (tt := 499) (r := []) zq_262 zo_262 hc rfl rfl rfl ?_
      refine zv_p (k := 4) (f' := (295, [(1, .ref p0), (2, .int p1), (5, .int p2), (6, .int p3), (7, .int p4), (8, .int p5), (9, .ref p6), (10, .ref p7), (11, .int p8)], [.int p2, .int p8, .int p1, .ref p0])) zq_262 zo_262 (by with_unfolding_all rfl) ?_
      replace hf := zf_be hf
      obtain ⟨_, ho, hf⟩ := hf
      replace hf := zf_b3e hf
      obtain ⟨v2, h3, hv, hf⟩ | ⟨E4, h3, hv, hf⟩ := hf
      rotate_left
      · cases hf; exact zv_cx zq_262 zo_262 rfl rfl rfl rfl rfl (zv_cv rfl rfl rfl (zf_ise ho) rfl) (t_f_ColumnVault_get _ _ _ _ _ _ _ hv) rfl
      refine zv_c zq_262 zo_262 rfl rfl rfl rfl rfl (zv_cv rfl rfl rfl (zf_ise ho) rfl) (t_f_ColumnVault_get _ _ _ _ _ _ _ hv) ?_
      refine zv_p (k := 2) (f' := (302, [(12, .long v2), (1, .ref p0), (2, .int p1), (5, .int p2), (6, .int p3), (7, .int p4), (8, .int p5), (9, .ref p6), (10, .ref p7), (11, .int p8)], [.long v2])) zq_262 zo_262 (by with_unfolding_all rfl) ?_
      refine zv_lng zq_262 zo_262 rfl rfl ?_
      refine zv_p (k := 1) (f' := (306, [(12, .long v2), (1, .ref p0), (2, .int p1), (5, .int p2), (6, .int p3), (7, .int p4), (8, .int p5), (9, .ref p6), (10, .ref p7), (11, .int p8)], [.int (lg_cmp v2 (-9000000000 : Int64))])) zq_262 zo_262 (by with_unfolding_all rfl) ?_
      replace hf := zf_ite hf
      obtain ⟨hc, hf⟩ | ⟨hc, hf⟩ := hf
      · refine zv_brT (off := 9) (tt := 315) (r := []) zq_262 zo_262 (zl_eq.mpr hc) rfl rfl rfl ?_
        refine zv_pick (lv' := [(1, .ref p0), (2, .int p1), (5, .int p2), (6, .int p3), (7, .int p4), (8, .int p5), (9, .ref p6), (10, .ref p7), (11, .int p8), (12, .long v2)]) [1, 2, 5, 6, 7, 8, 9, 10, 11, 12] rfl rfl ?_
        exact t_f_ColumnVaultLaw_test_315 ih _ _ _ _ _ _ _ _ _ _ _ _ _ hf
      · refine zv_brF (off := 9) (tt := 315) (r := []) zq_262 zo_262 (mt zl_eq.mp hc) rfl rfl rfl ?_
        refine zv_p (k := 2) (f' := (312, [(12, .long v2), (1, .ref p0), (2, .int p1), (5, .int p2), (6, .int p3), (7, .int p4), (8, .int p5), (9, .ref p6), (10, .ref p7), (11, .int p8)], [.int (5 : Int32), .int p4])) zq_262 zo_262 (by with_unfolding_all rfl) ?_
        replace hf := zf_ite hf
        obtain ⟨hc, hf⟩ | ⟨hc, hf⟩ := hf
        · refine zv_brT (off := 31) (tt := 343) (r := []) zq_262 zo_262 hc rfl rfl rfl ?_
          refine zv_p (k := 4) (f' := (350, [(12, .long v2), (1, .ref p0), (2, .int p1), (5, .int p2), (6, .int p3), (7, .int p4), (8, .int p5), (9, .ref p6), (10, .ref p7), (11, .int p8)], [.int (0 : Int32), .ref p6, .long v2, .int p3])) zq_262 zo_262 (by with_unfolding_all rfl) ?_
          replace hf := zf_be hf
          obtain ⟨v5, hv, hf⟩ := hf
          refine zv_ldJ zq_262 zo_262 rfl hv ?_
          replace hf := zf_b2e hf
          obtain ⟨v6, h7, hv, hf⟩ := hf
          refine zv_c zq_262 zo_262 rfl rfl rfl rfl rfl rfl (t_f_ColumnVaultLaw_than _ _ _ _ _ _ hv) ?_
          refine zv_p (k := 4) (f' := (362, [(14, .int v6), (12, .long v2), (1, .ref p0), (2, .int p1), (5, .int p2), (6, .int p3), (7, .int p4), (8, .int p5), (9, .ref p6), (10, .ref p7), (11, .int p8)], [.int p4, .int p8, .ref p7])) zq_262 zo_262 (by with_unfolding_all rfl) ?_
          replace hf := zf_ite hf
          obtain ⟨hc, hf⟩ | ⟨hc, hf⟩ := hf
          · refine zv_brT (off := 16) (tt := 378) (r := [.int p8, .ref p7]) zq_262 zo_262 hc rfl rfl rfl ?_
            refine zv_p (k := 2) (f' := (381, [(14, .int v6), (12, .long v2), (1, .ref p0), (2, .int p1), (5, .int p2), (6, .int p3), (7, .int p4), (8, .int p5), (9, .ref p6), (10, .ref p7), (11, .int p8)], [.int (1 : Int32), .int p4, .int p8, .ref p7])) zq_262 zo_262 (by with_unfolding_all rfl) ?_
            replace hf := zf_ite hf
            obtain ⟨hc, hf⟩ | ⟨hc, hf⟩ := hf
            · refine zv_brT (off := 16) (tt := 397) (r := [.int p8, .ref p7]) zq_262 zo_262 hc rfl rfl rfl ?_
              refine zv_p (k := 2) (f' := (400, [(14, .int v6), (12, .long v2), (1, .ref p0), (2, .int p1), (5, .int p2), (6, .int p3), (7, .int p4), (8, .int p5), (9, .ref p6), (10, .ref p7), (11, .int p8)], [.int (2 : Int32), .int p4, .int p8, .ref p7])) zq_262 zo_262 (by with_unfolding_all rfl) ?_
              replace hf := zf_ite hf
              obtain ⟨hc, hf⟩ | ⟨hc, hf⟩ := hf
              · refine zv_brT (off := 16) (tt := 416) (r := [.int p8, .ref p7]) zq_262 zo_262 hc rfl rfl rfl ?_
                refine zv_p (k := 2) (f' := (419, [(14, .int v6), (12, .long v2), (1, .ref p0), (2, .int p1), (5, .int p2), (6, .int p3), (7, .int p4), (8, .int p5), (9, .ref p6), (10, .ref p7), (11, .int p8)], [.int (3 : Int32), .int p4, .int p8, .ref p7])) zq_262 zo_262 (by with_unfolding_all rfl) ?_
                replace hf := zf_ite hf
                obtain ⟨hc, hf⟩ | ⟨hc, hf⟩ := hf
                · refine zv_brT (off := 26) (tt := 445) (r := [.int p8, .ref p7]) zq_262 zo_262 hc rfl rfl rfl ?_
                  refine zv_p (k := 1) (f' := (446, [(14, .int v6), (12, .long v2), (1, .ref p0), (2, .int p1), (5, .int p2), (6, .int p3), (7, .int p4), (8, .int p5), (9, .ref p6), (10, .ref p7), (11, .int p8)], [.int (0 : Int32), .int p8, .ref p7])) zq_262 zo_262 (by with_unfolding_all rfl) ?_
                  replace hf := zf_be hf
                  obtain ⟨h8, hv, hf⟩ := hf
                  refine zv_stB zq_262 zo_262 rfl hv ?_
                  refine zv_p (k := 2) (f' := (450, [(15, .int (0 : Int32)), (14, .int v6), (12, .long v2), (1, .ref p0), (2, .int p1), (5, .int p2), (6, .int p3), (7, .int p4), (8, .int p5), (9, .ref p6), (10, .ref p7), (11, .int p8)], [])) zq_262 zo_262 (by with_unfolding_all rfl) ?_
                  refine zv_pick (lv' := [(1, .ref p0), (2, .int p1), (5, .int p2), (6, .int p3), (7, .int p4), (8, .int p5), (9, .ref p6), (10, .ref p7), (11, .int p8), (12, .long v2), (15, .int (0 : Int32))]) [1, 2, 5, 6, 7, 8, 9, 10, 11, 12, 15] rfl rfl ?_
                  exact t_f_ColumnVaultLaw_test_450 ih zF _ _ _ _ _ _ _ _ _ _ _ _ _ _ hf
                · refine zv_brF (off := 26) (tt := 445) (r := [.int p8, .ref p7]) zq_262 zo_262 hc rfl rfl rfl ?_
                  refine zv_p (k := 1) (f' := (424, [(14, .int v6), (12, .long v2), (1, .ref p0), (2, .int p1), (5, .int p2), (6, .int p3), (7, .int p4), (8, .int p5), (9, .ref p6), (10, .ref p7), (11, .int p8)], [.int v6, .int p8, .ref p7])) zq_262 zo_262 (by with_unfolding_all rfl) ?_
                  replace hf := zf_ite hf
                  obtain ⟨hc, hf⟩ | ⟨hc, hf⟩ := hf
                  · refine zv_brT (off := 21) (tt := 445) (r := [.int p8, .ref p7]) zq_262 zo_262 hc rfl rfl rfl ?_
                    refine zv_p (k := 1) (f' := (446, [(14, .int v6), (12, .long v2), (1, .ref p0), (2, .int p1), (5, .int p2), (6, .int p3), (7, .int p4), (8, .int p5), (9, .ref p6), (10, .ref p7), (11, .int p8)], [.int (0 : Int32), .int p8, .ref p7])) zq_262 zo_262 (by with_unfolding_all rfl) ?_
                    replace hf := zf_be hf
                    obtain ⟨h9, hv, hf⟩ := hf
                    refine zv_stB zq_262 zo_262 rfl hv ?_
                    refine zv_p (k := 2) (f' := (450, [(15, .int (0 : Int32)), (14, .int v6), (12, .long v2), (1, .ref p0), (2, .int p1), (5, .int p2), (6, .int p3), (7, .int p4), (8, .int p5), (9, .ref p6), (10, .ref p7), (11, .int p8)], [])) zq_262 zo_262 (by with_unfolding_all rfl) ?_
                    refine zv_pick (lv' := [(1, .ref p0), (2, .int p1), (5, .int p2), (6, .int p3), (7, .int p4), (8, .int p5), (9, .ref p6), (10, .ref p7), (11, .int p8), (12, .long v2), (15, .int (0 : Int32))]) [1, 2, 5, 6, 7, 8, 9, 10, 11, 12, 15] rfl rfl ?_
                    exact t_f_ColumnVaultLaw_test_450 ih zF _ _ _ _ _ _ _ _ _ _ _ _ _ _ hf
                  · refine zv_brF (off := 21) (tt := 445) (r := [.int p8, .ref p7]) zq_262 zo_262 hc rfl rfl rfl ?_
                    refine zv_p (k := 4) (f' := (434, [(14, .int v6), (12, .long v2), (1, .ref p0), (2, .int p1), (5, .int p2), (6, .int p3), (7, .int p4), (8, .int p5), (9, .ref p6), (10, .ref p7), (11, .int p8)], [.int (1 : Int32), .ref p6, .long v2, .int p3, .int p8, .ref p7])) zq_262 zo_262 (by with_unfolding_all rfl) ?_
                    replace hf := zf_be hf
                    obtain ⟨v10, hv, hf⟩ := hf
                    refine zv_ldJ zq_262 zo_262 rfl hv ?_
                    replace hf := zf_b2e hf
                    obtain ⟨v11, h12, hv, hf⟩ := hf
                    refine zv_c zq_262 zo_262 rfl rfl rfl rfl rfl rfl (t_f_ColumnVaultLaw_than _ _ _ _ _ _ hv) ?_
                    replace hf := zf_ite hf
                    obtain ⟨hc, hf⟩ | ⟨hc, hf⟩ := hf
                    · refine zv_brT (off := 7) (tt := 445) (r := [.int p8, .ref p7]) zq_262 zo_262 hc rfl rfl rfl ?_
                      refine zv_p (k := 1) (f' := (446, [(14, .int v6), (12, .long v2), (1, .ref p0), (2, .int p1), (5, .int p2), (6, .int p3), (7, .int p4), (8, .int p5), (9, .ref p6), (10, .ref p7), (11, .int p8)], [.int (0 : Int32), .int p8, .ref p7])) zq_262 zo_262 (by with_unfolding_all rfl) ?_
                      replace hf := zf_be hf
                      obtain ⟨h13, hv, hf⟩ := hf
                      refine zv_stB zq_262 zo_262 rfl hv ?_
                      refine zv_p (k := 2) (f' := (450, [(15, .int (0 : Int32)), (14, .int v6), (12, .long v2), (1, .ref p0), (2, .int p1), (5, .int p2), (6, .int p3), (7, .int p4), (8, .int p5), (9, .ref p6), (10, .ref p7), (11, .int p8)], [])) zq_262 zo_262 (by with_unfolding_all rfl) ?_
                      refine zv_pick (lv' := [(1, .ref p0), (2, .int p1), (5, .int p2), (6, .int p3), (7, .int p4), (8, .int p5), (9, .ref p6), (10, .ref p7), (11, .int p8), (12, .long v2), (15, .int (0 : Int32))]) [1, 2, 5, 6, 7, 8, 9, 10, 11, 12, 15] rfl rfl ?_
                      exact t_f_ColumnVaultLaw_test_450 ih zF _ _ _ _ _ _ _ _ _ _ _ _ _ _ hf
                    · refine zv_brF (off := 7) (tt := 445) (r := [.int p8, .ref p7]) zq_262 zo_262 hc rfl rfl rfl ?_
                      refine zv_p (k := 2) (f' := (446, [(14, .int v6), (12, .long v2), (1, .ref p0), (2, .int p1), (5, .int p2), (6, .int p3), (7, .int p4), (8, .int p5), (9, .ref p6), (10, .ref p7), (11, .int p8)], [.int (1 : Int32), .int p8, .ref p7])) zq_262 zo_262 (by with_unfolding_all rfl) ?_
                      replace hf := zf_be hf
                      obtain ⟨h14, hv, hf⟩ := hf
                      refine zv_stB zq_262 zo_262 rfl hv ?_
                      refine zv_p (k := 2) (f' := (450, [(15, .int (0 : Int32)), (14, .int v6), (12, .long v2), (1, .ref p0), (2, .int p1), (5, .int p2), (6, .int p3), (7, .int p4), (8, .int p5), (9, .ref p6), (10, .ref p7), (11, .int p8)], [])) zq_262 zo_262 (by with_unfolding_all rfl) ?_
                      refine zv_pick (lv' := [(1, .ref p0), (2, .int p1), (5, .int p2), (6, .int p3), (7, .int p4), (8, .int p5), (9, .ref p6), (10, .ref p7), (11, .int p8), (12, .long v2), (15, .int (0 : Int32))]) [1, 2, 5, 6, 7, 8, 9, 10, 11, 12, 15] rfl rfl ?_
                      exact t_f_ColumnVaultLaw_test_450 ih zF _ _ _ _ _ _ _ _ _ _ _ _ _ _ hf
              · refine zv_brF (off := 16) (tt := 416) (r := [.int p8, .ref p7]) zq_262 zo_262 hc rfl rfl rfl ?_
                refine zv_p (k := 1) (f' := (405, [(14, .int v6), (12, .long v2), (1, .ref p0), (2, .int p1), (5, .int p2), (6, .int p3), (7, .int p4), (8, .int p5), (9, .ref p6), (10, .ref p7), (11, .int p8)], [.int v6, .int p8, .ref p7])) zq_262 zo_262 (by with_unfolding_all rfl) ?_
                replace hf := zf_ite hf
                obtain ⟨hc, hf⟩ | ⟨hc, hf⟩ := hf
                · refine zv_brT (off := 7) (tt := 412) (r := [.int p8, .ref p7]) zq_262 zo_262 hc rfl rfl rfl ?_
                  refine zv_p (k := 2) (f' := (446, [(14, .int v6), (12, .long v2), (1, .ref p0), (2, .int p1), (5, .int p2), (6, .int p3), (7, .int p4), (8, .int p5), (9, .ref p6), (10, .ref p7), (11, .int p8)], [.int (0 : Int32), .int p8, .ref p7])) zq_262 zo_262 (by with_unfolding_all rfl) ?_
                  replace hf := zf_be hf
                  obtain ⟨h15, hv, hf⟩ := hf
                  refine zv_stB zq_262 zo_262 rfl hv ?_
                  refine zv_p (k := 2) (f' := (450, [(15, .int (0 : Int32)), (14, .int v6), (12, .long v2), (1, .ref p0), (2, .int p1), (5, .int p2), (6, .int p3), (7, .int p4), (8, .int p5), (9, .ref p6), (10, .ref p7), (11, .int p8)], [])) zq_262 zo_262 (by with_unfolding_all rfl) ?_
                  refine zv_pick (lv' := [(1, .ref p0), (2, .int p1), (5, .int p2), (6, .int p3), (7, .int p4), (8, .int p5), (9, .ref p6), (10, .ref p7), (11, .int p8), (12, .long v2), (15, .int (0 : Int32))]) [1, 2, 5, 6, 7, 8, 9, 10, 11, 12, 15] rfl rfl ?_
                  exact t_f_ColumnVaultLaw_test_450 ih zF _ _ _ _ _ _ _ _ _ _ _ _ _ _ hf
                · refine zv_brF (off := 7) (tt := 412) (r := [.int p8, .ref p7]) zq_262 zo_262 hc rfl rfl rfl ?_
                  refine zv_p (k := 2) (f' := (446, [(14, .int v6), (12, .long v2), (1, .ref p0), (2, .int p1), (5, .int p2), (6, .int p3), (7, .int p4), (8, .int p5), (9, .ref p6), (10, .ref p7), (11, .int p8)], [.int (1 : Int32), .int p8, .ref p7])) zq_262 zo_262 (by with_unfolding_all rfl) ?_
                  replace hf := zf_be hf
                  obtain ⟨h16, hv, hf⟩ := hf
                  refine zv_stB zq_262 zo_262 rfl hv ?_
                  refine zv_p (k := 2) (f' := (450, [(15, .int (0 : Int32)), (14, .int v6), (12, .long v2), (1, .ref p0), (2, .int p1), (5, .int p2), (6, .int p3), (7, .int p4), (8, .int p5), (9, .ref p6), (10, .ref p7), (11, .int p8)], [])) zq_262 zo_262 (by with_unfolding_all rfl) ?_
                  refine zv_pick (lv' := [(1, .ref p0), (2, .int p1), (5, .int p2), (6, .int p3), (7, .int p4), (8, .int p5), (9, .ref p6), (10, .ref p7), (11, .int p8), (12, .long v2), (15, .int (0 : Int32))]) [1, 2, 5, 6, 7, 8, 9, 10, 11, 12, 15] rfl rfl ?_
                  exact t_f_ColumnVaultLaw_test_450 ih zF _ _ _ _ _ _ _ _ _ _ _ _ _ _ hf
            · refine zv_brF (off := 16) (tt := 397) (r := [.int p8, .ref p7]) zq_262 zo_262 hc rfl rfl rfl ?_
              refine zv_p (k := 1) (f' := (386, [(14, .int v6), (12, .long v2), (1, .ref p0), (2, .int p1), (5, .int p2), (6, .int p3), (7, .int p4), (8, .int p5), (9, .ref p6), (10, .ref p7), (11, .int p8)], [.int v6, .int p8, .ref p7])) zq_262 zo_262 (by with_unfolding_all rfl) ?_
              replace hf := zf_ite hf
              obtain ⟨hc, hf⟩ | ⟨hc, hf⟩ := hf
              · refine zv_brT (off := 7) (tt := 393) (r := [.int p8, .ref p7]) zq_262 zo_262 hc rfl rfl rfl ?_
                refine zv_p (k := 2) (f' := (446, [(14, .int v6), (12, .long v2), (1, .ref p0), (2, .int p1), (5, .int p2), (6, .int p3), (7, .int p4), (8, .int p5), (9, .ref p6), (10, .ref p7), (11, .int p8)], [.int (0 : Int32), .int p8, .ref p7])) zq_262 zo_262 (by with_unfolding_all rfl) ?_
                replace hf := zf_be hf
                obtain ⟨h17, hv, hf⟩ := hf
                refine zv_stB zq_262 zo_262 rfl hv ?_
                refine zv_p (k := 2) (f' := (450, [(15, .int (0 : Int32)), (14, .int v6), (12, .long v2), (1, .ref p0), (2, .int p1), (5, .int p2), (6, .int p3), (7, .int p4), (8, .int p5), (9, .ref p6), (10, .ref p7), (11, .int p8)], [])) zq_262 zo_262 (by with_unfolding_all rfl) ?_
                refine zv_pick (lv' := [(1, .ref p0), (2, .int p1), (5, .int p2), (6, .int p3), (7, .int p4), (8, .int p5), (9, .ref p6), (10, .ref p7), (11, .int p8), (12, .long v2), (15, .int (0 : Int32))]) [1, 2, 5, 6, 7, 8, 9, 10, 11, 12, 15] rfl rfl ?_
                exact t_f_ColumnVaultLaw_test_450 ih zF _ _ _ _ _ _ _ _ _ _ _ _ _ _ hf
              · refine zv_brF (off := 7) (tt := 393) (r := [.int p8, .ref p7]) zq_262 zo_262 hc rfl rfl rfl ?_
                refine zv_p (k := 2) (f' := (446, [(14, .int v6), (12, .long v2), (1, .ref p0), (2, .int p1), (5, .int p2), (6, .int p3), (7, .int p4), (8, .int p5), (9, .ref p6), (10, .ref p7), (11, .int p8)], [.int (1 : Int32), .int p8, .ref p7])) zq_262 zo_262 (by with_unfolding_all rfl) ?_
                replace hf := zf_be hf
                obtain ⟨h18, hv, hf⟩ := hf
                refine zv_stB zq_262 zo_262 rfl hv ?_
                refine zv_p (k := 2) (f' := (450, [(15, .int (0 : Int32)), (14, .int v6), (12, .long v2), (1, .ref p0), (2, .int p1), (5, .int p2), (6, .int p3), (7, .int p4), (8, .int p5), (9, .ref p6), (10, .ref p7), (11, .int p8)], [])) zq_262 zo_262 (by with_unfolding_all rfl) ?_
                refine zv_pick (lv' := [(1, .ref p0), (2, .int p1), (5, .int p2), (6, .int p3), (7, .int p4), (8, .int p5), (9, .ref p6), (10, .ref p7), (11, .int p8), (12, .long v2), (15, .int (0 : Int32))]) [1, 2, 5, 6, 7, 8, 9, 10, 11, 12, 15] rfl rfl ?_
                exact t_f_ColumnVaultLaw_test_450 ih zF _ _ _ _ _ _ _ _ _ _ _ _ _ _ hf
          · refine zv_brF (off := 16) (tt := 378) (r := [.int p8, .ref p7]) zq_262 zo_262 hc rfl rfl rfl ?_
            refine zv_p (k := 1) (f' := (367, [(14, .int v6), (12, .long v2), (1, .ref p0), (2, .int p1), (5, .int p2), (6, .int p3), (7, .int p4), (8, .int p5), (9, .ref p6), (10, .ref p7), (11, .int p8)], [.int v6, .int p8, .ref p7])) zq_262 zo_262 (by with_unfolding_all rfl) ?_
            replace hf := zf_ite hf
            obtain ⟨hc, hf⟩ | ⟨hc, hf⟩ := hf
            · refine zv_brT (off := 7) (tt := 374) (r := [.int p8, .ref p7]) zq_262 zo_262 hc rfl rfl rfl ?_
              refine zv_p (k := 2) (f' := (446, [(14, .int v6), (12, .long v2), (1, .ref p0), (2, .int p1), (5, .int p2), (6, .int p3), (7, .int p4), (8, .int p5), (9, .ref p6), (10, .ref p7), (11, .int p8)], [.int (0 : Int32), .int p8, .ref p7])) zq_262 zo_262 (by with_unfolding_all rfl) ?_
              replace hf := zf_be hf
              obtain ⟨h19, hv, hf⟩ := hf
              refine zv_stB zq_262 zo_262 rfl hv ?_
              refine zv_p (k := 2) (f' := (450, [(15, .int (0 : Int32)), (14, .int v6), (12, .long v2), (1, .ref p0), (2, .int p1), (5, .int p2), (6, .int p3), (7, .int p4), (8, .int p5), (9, .ref p6), (10, .ref p7), (11, .int p8)], [])) zq_262 zo_262 (by with_unfolding_all rfl) ?_
              refine zv_pick (lv' := [(1, .ref p0), (2, .int p1), (5, .int p2), (6, .int p3), (7, .int p4), (8, .int p5), (9, .ref p6), (10, .ref p7), (11, .int p8), (12, .long v2), (15, .int (0 : Int32))]) [1, 2, 5, 6, 7, 8, 9, 10, 11, 12, 15] rfl rfl ?_
              exact t_f_ColumnVaultLaw_test_450 ih zF _ _ _ _ _ _ _ _ _ _ _ _ _ _ hf
            · refine zv_brF (off := 7) (tt := 374) (r := [.int p8, .ref p7]) zq_262 zo_262 hc rfl rfl rfl ?_
              refine zv_p (k := 2) (f' := (446, [(14, .int v6), (12, .long v2), (1, .ref p0), (2, .int p1), (5, .int p2), (6, .int p3), (7, .int p4), (8, .int p5), (9, .ref p6), (10, .ref p7), (11, .int p8)], [.int (1 : Int32), .int p8, .ref p7])) zq_262 zo_262 (by with_unfolding_all rfl) ?_
              replace hf := zf_be hf
              obtain ⟨h20, hv, hf⟩ := hf
              refine zv_stB zq_262 zo_262 rfl hv ?_
              refine zv_p (k := 2) (f' := (450, [(15, .int (0 : Int32)), (14, .int v6), (12, .long v2), (1, .ref p0), (2, .int p1), (5, .int p2), (6, .int p3), (7, .int p4), (8, .int p5), (9, .ref p6), (10, .ref p7), (11, .int p8)], [])) zq_262 zo_262 (by with_unfolding_all rfl) ?_
              refine zv_pick (lv' := [(1, .ref p0), (2, .int p1), (5, .int p2), (6, .int p3), (7, .int p4), (8, .int p5), (9, .ref p6), (10, .ref p7), (11, .int p8), (12, .long v2), (15, .int (0 : Int32))]) [1, 2, 5, 6, 7, 8, 9, 10, 11, 12, 15] rfl rfl ?_
              exact t_f_ColumnVaultLaw_test_450 ih zF _ _ _ _ _ _ _ _ _ _ _ _ _ _ hf
        · refine zv_brF (off := 31) (tt := 343) (r := []) zq_262 zo_262 hc rfl rfl rfl ?_
          refine zv_pick (lv' := [(1, .ref p0), (2, .int p1), (5, .int p2), (6, .int p3), (7, .int p4), (8, .int p5), (9, .ref p6), (10, .ref p7), (11, .int p8), (12, .long v2)]) [1, 2, 5, 6, 7, 8, 9, 10, 11, 12] rfl rfl ?_
          exact t_f_ColumnVaultLaw_test_315 ih _ _ _ _ _ _ _ _ _ _ _ _ _ hf
set_option maxHeartbeats 1000000 in
def f_ColumnVaultLaw_test_175 : Nat → Nat → Nat → Int32 → Nat → Int32 → Int32 → Int32 → Int32 → Nat → Int32 → zx_H → Option ((Nat ⊕ Nat) × zx_H)
  | 0, _, _, _, _, _, _, _, _, _, _, _ => none
  | n + 1, p0, p1, p2, p3, p4, p5, p6, p7, p8, p9, h =>
    if p7 ≤ p9 then
      zf_b (zf_is 12 p1 h) fun _ =>
      zf_b3 (f_ColumnVault_size p1 p2 (0 : Int32) h) fun v1 h2 =>
      zf_b2 (zf_newa .boolean 5 v1 h2) fun q4 h5 =>
      f_ColumnVaultLaw_test_281 zF p1 p2 p4 p5 p6 p7 p8 q4 (0 : Int32) h5
    else
      zf_b2 (f_ColumnVaultLaw_value p0 p5 h) fun v6 h7 =>
      zf_b (zf_stJ p8 p9 v6 h7) fun h8 =>
      if (2 : Int32) < p6 then
        f_ColumnVaultLaw_test_215 (f_ColumnVaultLaw_test_175 n) p0 p1 p2 p3 p4 p5 p6 p7 p8 p9 p3 (zx_lim + 1 + 602) h8
      else
        zf_b2 (f_ColumnVaultLaw_draw p0 (3 : Int32) h8) fun v9 h10 =>
        if ¬ v9 = 0 then
          f_ColumnVaultLaw_test_215 (f_ColumnVaultLaw_test_175 n) p0 p1 p2 p3 p4 p5 p6 p7 p8 p9 p3 (zx_lim + 1 + 604) h10
        else
          f_ColumnVaultLaw_test_215 (f_ColumnVaultLaw_test_175 n) p0 p1 p2 p3 p4 p5 p6 p7 p8 p9 p3 (zx_lim + 1 + 602) h10
set_option maxHeartbeats 4000000 in
set_option maxRecDepth 400000 in
theorem t_f_ColumnVaultLaw_test_175 {sc : (Nat × (Nat → Int32)) × Bool} {d : Nat} : ∀ (n : Nat) (p0 : Nat) (p1 : Nat) (p2 : Int32) (p3 : Nat) (p4 : Int32) (p5 : Int32) (p6 : Int32) (p7 : Int32) (p8 : Nat) (p9 : Int32) (h : zx_H) (r : (Nat ⊕ Nat)) (h' : zx_H), f_ColumnVaultLaw_test_175 n p0 p1 p2 p3 p4 p5 p6 p7 p8 p9 h = some (r, h') → zx_T sc (d + 8) 262 (175, [(0, .ref p0), (1, .ref p1), (2, .int p2), (3, .ref p3), (5, .int p4), (6, .int p5), (7, .int p6), (8, .int p7), (9, .ref p8), (10, .int p9)], []) h (zf_oAx r) h' := by
  intro n
  induction n with
  | zero => intro p0 p1 p2 p3 p4 p5 p6 p7 p8 p9 h r h' hf; cases hf
  | succ n ih =>
    intro p0 p1 p2 p3 p4 p5 p6 p7 p8 p9 h r h' hf
    unfold f_ColumnVaultLaw_test_175 at hf
    refine zv_p (k := 2) (f' := (179, [(0, .ref p0), (1, .ref p1), (2, .int p2), (3, .ref p3), (5, .int p4), (6, .int p5), (7, .int p6), (8, .int p7), (9, .ref p8), (10, .int p9)], [.int p7, .int p9])) zq_262 zo_262 (by with_unfolding_all rfl) ?_
    replace hf := zf_ite hf
    obtain ⟨hc, hf⟩ | ⟨hc, hf⟩ := hf
    · refine zv_brT (off := 89) (tt := 268) (r := []) zq_262 zo_262 hc rfl rfl rfl ?_
      refine zv_p (k := 3) (f' := (271, [(0, .ref p0), (1, .ref p1), (2, .int p2), (3, .ref p3), (5, .int p4), (6, .int p5), (7, .int p6), (8, .int p7), (9, .ref p8), (10, .int p9)], [.int (0 : Int32), .int p2, .ref p1])) zq_262 zo_262 (by with_unfolding_all rfl) ?_
      replace hf := zf_be hf
      obtain ⟨_, ho, hf⟩ := hf
      replace hf := zf_b3e hf
      obtain ⟨v1, h2, hv, hf⟩ | ⟨E3, h2, hv, hf⟩ := hf
      rotate_left
      · cases hf; exact zv_cx zq_262 zo_262 rfl rfl rfl rfl rfl (zv_cv rfl rfl rfl (zf_ise ho) rfl) (t_f_ColumnVault_size _ _ _ _ _ _ hv) rfl
      refine zv_c zq_262 zo_262 rfl rfl rfl rfl rfl (zv_cv rfl rfl rfl (zf_ise ho) rfl) (t_f_ColumnVault_size _ _ _ _ _ _ hv) ?_
      replace hf := zf_b2e hf
      obtain ⟨q4, h5, hv, hf⟩ := hf
      refine zv_newa zq_262 zo_262 rfl rfl hv ?_
      refine zv_p (k := 3) (f' := (281, [(11, .int (0 : Int32)), (10, .ref q4), (0, .ref p0), (1, .ref p1), (2, .int p2), (3, .ref p3), (5, .int p4), (6, .int p5), (7, .int p6), (8, .int p7), (9, .ref p8)], [])) zq_262 zo_262 (by with_unfolding_all rfl) ?_
      refine zv_pick (lv' := [(1, .ref p1), (2, .int p2), (5, .int p4), (6, .int p5), (7, .int p6), (8, .int p7), (9, .ref p8), (10, .ref q4), (11, .int (0 : Int32))]) [1, 2, 5, 6, 7, 8, 9, 10, 11] rfl rfl ?_
      exact t_f_ColumnVaultLaw_test_281 zF _ _ _ _ _ _ _ _ _ _ _ _ hf
    · refine zv_brF (off := 89) (tt := 268) (r := []) zq_262 zo_262 hc rfl rfl rfl ?_
      refine zv_p (k := 4) (f' := (189, [(0, .ref p0), (1, .ref p1), (2, .int p2), (3, .ref p3), (5, .int p4), (6, .int p5), (7, .int p6), (8, .int p7), (9, .ref p8), (10, .int p9)], [.int p5, .ref p0, .int p9, .ref p8])) zq_262 zo_262 (by with_unfolding_all rfl) ?_
      replace hf := zf_b2e hf
      obtain ⟨v6, h7, hv, hf⟩ := hf
      refine zv_c zq_262 zo_262 rfl rfl rfl rfl rfl rfl (t_f_ColumnVaultLaw_value _ _ _ _ _ hv) ?_
      replace hf := zf_be hf
      obtain ⟨h8, hv, hf⟩ := hf
      refine zv_stJ zq_262 zo_262 rfl hv ?_
      refine zv_p (k := 3) (f' := (197, [(0, .ref p0), (1, .ref p1), (2, .int p2), (3, .ref p3), (5, .int p4), (6, .int p5), (7, .int p6), (8, .int p7), (9, .ref p8), (10, .int p9)], [.int (2 : Int32), .int p6, .ref p3])) zq_262 zo_262 (by with_unfolding_all rfl) ?_
      replace hf := zf_ite hf
      obtain ⟨hc, hf⟩ | ⟨hc, hf⟩ := hf
      · refine zv_brT (off := 11) (tt := 208) (r := [.ref p3]) zq_262 zo_262 hc rfl rfl rfl ?_
        refine zv_str zq_262 zo_262 rfl rfl ?_
        refine zv_p (k := 1) (f' := (215, [(0, .ref p0), (1, .ref p1), (2, .int p2), (3, .ref p3), (5, .int p4), (6, .int p5), (7, .int p6), (8, .int p7), (9, .ref p8), (10, .int p9)], [.ref (zx_lim + 1 + 602), .ref p3])) zq_262 zo_262 (by with_unfolding_all rfl) ?_
        refine zv_pick (lv' := [(0, .ref p0), (1, .ref p1), (2, .int p2), (3, .ref p3), (5, .int p4), (6, .int p5), (7, .int p6), (8, .int p7), (9, .ref p8), (10, .int p9)]) [0, 1, 2, 3, 5, 6, 7, 8, 9, 10] rfl rfl ?_
        exact t_f_ColumnVaultLaw_test_215 ih _ _ _ _ _ _ _ _ _ _ _ _ _ _ _ hf
      · refine zv_brF (off := 11) (tt := 208) (r := [.ref p3]) zq_262 zo_262 hc rfl rfl rfl ?_
        refine zv_p (k := 2) (f' := (202, [(0, .ref p0), (1, .ref p1), (2, .int p2), (3, .ref p3), (5, .int p4), (6, .int p5), (7, .int p6), (8, .int p7), (9, .ref p8), (10, .int p9)], [.int (3 : Int32), .ref p0, .ref p3])) zq_262 zo_262 (by with_unfolding_all rfl) ?_
        replace hf := zf_b2e hf
        obtain ⟨v9, h10, hv, hf⟩ := hf
        refine zv_c zq_262 zo_262 rfl rfl rfl rfl rfl rfl (t_f_ColumnVaultLaw_draw _ _ _ _ _ hv) ?_
        replace hf := zf_ite hf
        obtain ⟨hc, hf⟩ | ⟨hc, hf⟩ := hf
        · refine zv_brT (off := 8) (tt := 213) (r := [.ref p3]) zq_262 zo_262 hc rfl rfl rfl ?_
          refine zv_str zq_262 zo_262 rfl rfl ?_
          refine zv_pick (lv' := [(0, .ref p0), (1, .ref p1), (2, .int p2), (3, .ref p3), (5, .int p4), (6, .int p5), (7, .int p6), (8, .int p7), (9, .ref p8), (10, .int p9)]) [0, 1, 2, 3, 5, 6, 7, 8, 9, 10] rfl rfl ?_
          exact t_f_ColumnVaultLaw_test_215 ih _ _ _ _ _ _ _ _ _ _ _ _ _ _ _ hf
        · refine zv_brF (off := 8) (tt := 213) (r := [.ref p3]) zq_262 zo_262 hc rfl rfl rfl ?_
          refine zv_str zq_262 zo_262 rfl rfl ?_
          refine zv_p (k := 1) (f' := (215, [(0, .ref p0), (1, .ref p1), (2, .int p2), (3, .ref p3), (5, .int p4), (6, .int p5), (7, .int p6), (8, .int p7), (9, .ref p8), (10, .int p9)], [.ref (zx_lim + 1 + 602), .ref p3])) zq_262 zo_262 (by with_unfolding_all rfl) ?_
          refine zv_pick (lv' := [(0, .ref p0), (1, .ref p1), (2, .int p2), (3, .ref p3), (5, .int p4), (6, .int p5), (7, .int p6), (8, .int p7), (9, .ref p8), (10, .int p9)]) [0, 1, 2, 3, 5, 6, 7, 8, 9, 10] rfl rfl ?_
          exact t_f_ColumnVaultLaw_test_215 ih _ _ _ _ _ _ _ _ _ _ _ _ _ _ _ hf
