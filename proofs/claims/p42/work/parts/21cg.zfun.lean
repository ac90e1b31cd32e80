set_option maxHeartbeats 1000000 in
def f_ColumnVaultLaw_isTold_90 : Nat → Nat → Int32 → Int32 → Int32 → Int32 → Int32 → Int64 → Int64 → Int32 → Int32 → Int64 → Int64 → Int64 → Int32 → zx_H → Option ((Int32 ⊕ Nat) × zx_H)
  | 0, _, _, _, _, _, _, _, _, _, _, _, _, _, _, _ => none
  | n + 1, p0, p1, p2, p3, p4, p5, p6, p7, p8, p9, p10, p11, p12, p13, h =>
    if p5 ≤ p13 then
      zf_b (zf_is 12 p0 h) fun _ =>
      zf_b3 (f_ColumnVault_between p0 p1 p2 p6 p7 h) fun v1 h2 =>
      if ¬ v1 = p8 then
        some (.inl (0 : Int32), h2)
      else
        zf_b2 (f_ColumnVaultLaw_asks p0 (15 : Int32) p1 p2 p6 h2) fun v4 h5 =>
        if ¬ v4 = p10 then
          some (.inl (0 : Int32), h5)
        else
          zf_b2 (f_ColumnVaultLaw_asks p0 (16 : Int32) p1 p2 p6 h5) fun v6 h7 =>
          if ¬ v6 = p11 then
            some (.inl (0 : Int32), h7)
          else
            zf_b (zf_is 12 p0 h7) fun _ =>
            zf_b3 (f_ColumnVault_total p0 p1 p2 (0 : Int32) h7) fun v8 h9 =>
            if v8 = ((p9).toInt64) then
              if ¬ p9 = 0 then
                zf_b (zf_is 12 p0 h9) fun _ =>
                zf_b3 (f_ColumnVault_total p0 p1 p2 (4 : Int32) h9) fun v11 h12 =>
                f_ColumnVaultLaw_isTold_638 zF p0 p1 p2 p3 p5 p9 v11 (0 : Int32) (0 : Int32) (0 : Int32) (0 : Int32) h12
              else
                zf_b2 (f_ColumnVaultLaw_asks p0 (12 : Int32) p1 p2 (4 : Int64) h9) fun v14 h15 =>
                if ¬ v14 = (-3000000002 : Int64) then
                  some (.inl (0 : Int32), h15)
                else
                  zf_b (zf_is 12 p0 h15) fun _ =>
                  zf_b3 (f_ColumnVault_total p0 p1 p2 (5 : Int32) h15) fun v16 h17 =>
                  if ¬ v16 = (0 : Int64) then
                    some (.inl (0 : Int32), h17)
                  else
                    some (.inl (1 : Int32), h17)
            else
              some (.inl (0 : Int32), h9)
    else
      zf_b (zf_is 12 p0 h) fun _ =>
      zf_b3 (f_ColumnVault_rowAt p0 p1 p13 h) fun v19 h20 =>
      zf_b (zf_is 12 p0 h20) fun _ =>
      zf_b3 (f_ColumnVault_get p0 p1 v19 p2 h20) fun v22 h23 =>
      f_ColumnVaultLaw_isTold_125 (f_ColumnVaultLaw_isTold_90 n) zF p0 p1 p2 p3 p4 p5 p6 p7 p8 p9 p10 p11 p12 p13 v19 v22 (1 : Int32) (-1 : Int32) (0 : Int32) h23
set_option maxHeartbeats 4000000 in
set_option maxRecDepth 400000 in
theorem t_f_ColumnVaultLaw_isTold_90 {sc : (Nat × (Nat → Int32)) × Bool} {d : Nat} : ∀ (n : Nat) (p0 : Nat) (p1 : Int32) (p2 : Int32) (p3 : Int32) (p4 : Int32) (p5 : Int32) (p6 : Int64) (p7 : Int64) (p8 : Int32) (p9 : Int32) (p10 : Int64) (p11 : Int64) (p12 : Int64) (p13 : Int32) (h : zx_H) (r : (Int32 ⊕ Nat)) (h' : zx_H), f_ColumnVaultLaw_isTold_90 n p0 p1 p2 p3 p4 p5 p6 p7 p8 p9 p10 p11 p12 p13 h = some (r, h') → zx_T sc (d + 125) 296 (90, [(0, .ref p0), (2, .int p1), (3, .int p2), (4, .int p3), (5, .int p4), (6, .int p5), (7, .long p6), (9, .long p7), (11, .int p8), (12, .int p9), (13, .long p10), (15, .long p11), (17, .long p12), (19, .int p13)], []) h (zf_oIx r) h' := by
  intro n
  induction n with
  | zero => intro p0 p1 p2 p3 p4 p5 p6 p7 p8 p9 p10 p11 p12 p13 h r h' hf; cases hf
  | succ n ih =>
    intro p0 p1 p2 p3 p4 p5 p6 p7 p8 p9 p10 p11 p12 p13 h r h' hf
    unfold f_ColumnVaultLaw_isTold_90 at hf
    refine zv_p (k := 2) (f' := (94, [(0, .ref p0), (2, .int p1), (3, .int p2), (4, .int p3), (5, .int p4), (6, .int p5), (7, .long p6), (9, .long p7), (11, .int p8), (12, .int p9), (13, .long p10), (15, .long p11), (17, .long p12), (19, .int p13)], [.int p5, .int p13])) zq_296 zo_296 (by with_unfolding_all rfl) ?_
    replace hf := zf_ite hf
    obtain ⟨hc, hf⟩ | ⟨hc, hf⟩ := hf
    · refine zv_brT (off := 419) (tt := 513) (r := []) zq_296 zo_296 hc rfl rfl rfl ?_
      refine zv_p (k := 5) (f' := (520, [(0, .ref p0), (2, .int p1), (3, .int p2), (4, .int p3), (5, .int p4), (6, .int p5), (7, .long p6), (9, .long p7), (11, .int p8), (12, .int p9), (13, .long p10), (15, .long p11), (17, .long p12), (19, .int p13)], [.long p7, .long p6, .int p2, .int p1, .ref p0])) zq_296 zo_296 (by with_unfolding_all rfl) ?_
      replace hf := zf_be hf
      obtain ⟨_, ho, hf⟩ := hf
      replace hf := zf_b3e hf
      obtain ⟨v1, h2, hv, hf⟩ | ⟨E3, h2, hv, hf⟩ := hf
      rotate_left
      · cases hf; exact zv_cx zq_296 zo_296 rfl rfl rfl rfl rfl (zv_cv rfl rfl rfl (zf_ise ho) rfl) (t_f_ColumnVault_between _ _ _ _ _ _ _ _ hv) rfl
      refine zv_c zq_296 zo_296 rfl rfl rfl rfl rfl (zv_cv rfl rfl rfl (zf_ise ho) rfl) (t_f_ColumnVault_between _ _ _ _ _ _ _ _ hv) ?_
      refine zv_p (k := 1) (f' := (525, [(0, .ref p0), (2, .int p1), (3, .int p2), (4, .int p3), (5, .int p4), (6, .int p5), (7, .long p6), (9, .long p7), (11, .int p8), (12, .int p9), (13, .long p10), (15, .long p11), (17, .long p12), (19, .int p13)], [.int p8, .int v1])) zq_296 zo_296 (by with_unfolding_all rfl) ?_
      replace hf := zf_ite hf
      obtain ⟨hc, hf⟩ | ⟨hc, hf⟩ := hf
      · refine zv_brT (off := 49) (tt := 574) (r := []) zq_296 zo_296 hc rfl rfl rfl ?_
        refine zv_p (k := 1) (f' := (575, [(0, .ref p0), (2, .int p1), (3, .int p2), (4, .int p3), (5, .int p4), (6, .int p5), (7, .long p6), (9, .long p7), (11, .int p8), (12, .int p9), (13, .long p10), (15, .long p11), (17, .long p12), (19, .int p13)], [.int (0 : Int32)])) zq_296 zo_296 (by with_unfolding_all rfl) ?_
        cases hf
        exact zv_rn zq_296 zo_296 rfl rfl
      · refine zv_brF (off := 49) (tt := 574) (r := []) zq_296 zo_296 hc rfl rfl rfl ?_
        refine zv_p (k := 5) (f' := (535, [(0, .ref p0), (2, .int p1), (3, .int p2), (4, .int p3), (5, .int p4), (6, .int p5), (7, .long p6), (9, .long p7), (11, .int p8), (12, .int p9), (13, .long p10), (15, .long p11), (17, .long p12), (19, .int p13)], [.long p6, .int p2, .int p1, .int (15 : Int32), .ref p0])) zq_296 zo_296 (by with_unfolding_all rfl) ?_
        replace hf := zf_b2e hf
        obtain ⟨v4, h5, hv, hf⟩ := hf
        refine zv_c zq_296 zo_296 rfl rfl rfl rfl rfl rfl (t_f_ColumnVaultLaw_asks _ _ _ _ _ _ _ _ hv) ?_
        refine zv_p (k := 2) (f' := (541, [(0, .ref p0), (2, .int p1), (3, .int p2), (4, .int p3), (5, .int p4), (6, .int p5), (7, .long p6), (9, .long p7), (11, .int p8), (12, .int p9), (13, .long p10), (15, .long p11), (17, .long p12), (19, .int p13)], [.int (lg_cmp v4 p10)])) zq_296 zo_296 (by with_unfolding_all rfl) ?_
        replace hf := zf_ite hf
        obtain ⟨hc, hf⟩ | ⟨hc, hf⟩ := hf
        · refine zv_brT (off := 33) (tt := 574) (r := []) zq_296 zo_296 (zl_ne.mpr hc) rfl rfl rfl ?_
          refine zv_p (k := 1) (f' := (575, [(0, .ref p0), (2, .int p1), (3, .int p2), (4, .int p3), (5, .int p4), (6, .int p5), (7, .long p6), (9, .long p7), (11, .int p8), (12, .int p9), (13, .long p10), (15, .long p11), (17, .long p12), (19, .int p13)], [.int (0 : Int32)])) zq_296 zo_296 (by with_unfolding_all rfl) ?_
          cases hf
          exact zv_rn zq_296 zo_296 rfl rfl
        · refine zv_brF (off := 33) (tt := 574) (r := []) zq_296 zo_296 (mt zl_ne.mp hc) rfl rfl rfl ?_
          refine zv_p (k := 5) (f' := (551, [(0, .ref p0), (2, .int p1), (3, .int p2), (4, .int p3), (5, .int p4), (6, .int p5), (7, .long p6), (9, .long p7), (11, .int p8), (12, .int p9), (13, .long p10), (15, .long p11), (17, .long p12), (19, .int p13)], [.long p6, .int p2, .int p1, .int (16 : Int32), .ref p0])) zq_296 zo_296 (by with_unfolding_all rfl) ?_
          replace hf := zf_b2e hf
          obtain ⟨v6, h7, hv, hf⟩ := hf
          refine zv_c zq_296 zo_296 rfl rfl rfl rfl rfl rfl (t_f_ColumnVaultLaw_asks _ _ _ _ _ _ _ _ hv) ?_
          refine zv_p (k := 2) (f' := (557, [(0, .ref p0), (2, .int p1), (3, .int p2), (4, .int p3), (5, .int p4), (6, .int p5), (7, .long p6), (9, .long p7), (11, .int p8), (12, .int p9), (13, .long p10), (15, .long p11), (17, .long p12), (19, .int p13)], [.int (lg_cmp v6 p11)])) zq_296 zo_296 (by with_unfolding_all rfl) ?_
          replace hf := zf_ite hf
          obtain ⟨hc, hf⟩ | ⟨hc, hf⟩ := hf
          · refine zv_brT (off := 17) (tt := 574) (r := []) zq_296 zo_296 (zl_ne.mpr hc) rfl rfl rfl ?_
            refine zv_p (k := 1) (f' := (575, [(0, .ref p0), (2, .int p1), (3, .int p2), (4, .int p3), (5, .int p4), (6, .int p5), (7, .long p6), (9, .long p7), (11, .int p8), (12, .int p9), (13, .long p10), (15, .long p11), (17, .long p12), (19, .int p13)], [.int (0 : Int32)])) zq_296 zo_296 (by with_unfolding_all rfl) ?_
            cases hf
            exact zv_rn zq_296 zo_296 rfl rfl
          · refine zv_brF (off := 17) (tt := 574) (r := []) zq_296 zo_296 (mt zl_ne.mp hc) rfl rfl rfl ?_
            refine zv_p (k := 4) (f' := (564, [(0, .ref p0), (2, .int p1), (3, .int p2), (4, .int p3), (5, .int p4), (6, .int p5), (7, .long p6), (9, .long p7), (11, .int p8), (12, .int p9), (13, .long p10), (15, .long p11), (17, .long p12), (19, .int p13)], [.int (0 : Int32), .int p2, .int p1, .ref p0])) zq_296 zo_296 (by with_unfolding_all rfl) ?_
            replace hf := zf_be hf
            obtain ⟨_, ho, hf⟩ := hf
            replace hf := zf_b3e hf
            obtain ⟨v8, h9, hv, hf⟩ | ⟨E10, h9, hv, hf⟩ := hf
            rotate_left
            · cases hf; exact zv_cx zq_296 zo_296 rfl rfl rfl rfl rfl (zv_cv rfl rfl rfl (zf_ise ho) rfl) (t_f_ColumnVault_total _ _ _ _ _ _ _ hv) rfl
            refine zv_c zq_296 zo_296 rfl rfl rfl rfl rfl (zv_cv rfl rfl rfl (zf_ise ho) rfl) (t_f_ColumnVault_total _ _ _ _ _ _ _ hv) ?_
            refine zv_p (k := 3) (f' := (571, [(0, .ref p0), (2, .int p1), (3, .int p2), (4, .int p3), (5, .int p4), (6, .int p5), (7, .long p6), (9, .long p7), (11, .int p8), (12, .int p9), (13, .long p10), (15, .long p11), (17, .long p12), (19, .int p13)], [.int (lg_cmp v8 ((p9).toInt64))])) zq_296 zo_296 (by with_unfolding_all rfl) ?_
            replace hf := zf_ite hf
            obtain ⟨hc, hf⟩ | ⟨hc, hf⟩ := hf
            · refine zv_brT (off := 5) (tt := 576) (r := []) zq_296 zo_296 (zl_eq.mpr hc) rfl rfl rfl ?_
              refine zv_p (k := 1) (f' := (578, [(0, .ref p0), (2, .int p1), (3, .int p2), (4, .int p3), (5, .int p4), (6, .int p5), (7, .long p6), (9, .long p7), (11, .int p8), (12, .int p9), (13, .long p10), (15, .long p11), (17, .long p12), (19, .int p13)], [.int p9])) zq_296 zo_296 (by with_unfolding_all rfl) ?_
              replace hf := zf_ite hf
              obtain ⟨hc, hf⟩ | ⟨hc, hf⟩ := hf
              · refine zv_brT (off := 39) (tt := 617) (r := []) zq_296 zo_296 hc rfl rfl rfl ?_
                refine zv_p (k := 4) (f' := (621, [(0, .ref p0), (2, .int p1), (3, .int p2), (4, .int p3), (5, .int p4), (6, .int p5), (7, .long p6), (9, .long p7), (11, .int p8), (12, .int p9), (13, .long p10), (15, .long p11), (17, .long p12), (19, .int p13)], [.int (4 : Int32), .int p2, .int p1, .ref p0])) zq_296 zo_296 (by with_unfolding_all rfl) ?_
                replace hf := zf_be hf
                obtain ⟨_, ho, hf⟩ := hf
                replace hf := zf_b3e hf
                obtain ⟨v11, h12, hv, hf⟩ | ⟨E13, h12, hv, hf⟩ := hf
                rotate_left
                · cases hf; exact zv_cx zq_296 zo_296 rfl rfl rfl rfl rfl (zv_cv rfl rfl rfl (zf_ise ho) rfl) (t_f_ColumnVault_total _ _ _ _ _ _ _ hv) rfl
                refine zv_c zq_296 zo_296 rfl rfl rfl rfl rfl (zv_cv rfl rfl rfl (zf_ise ho) rfl) (t_f_ColumnVault_total _ _ _ _ _ _ _ hv) ?_
                refine zv_p (k := 8) (f' := (636, [(23, .int (0 : Int32)), (22, .int (0 : Int32)), (21, .int (0 : Int32)), (19, .long v11), (0, .ref p0), (2, .int p1), (3, .int p2), (4, .int p3), (5, .int p4), (6, .int p5), (7, .long p6), (9, .long p7), (11, .int p8), (12, .int p9), (13, .long p10), (15, .long p11), (17, .long p12)], [.int (0 : Int32)])) zq_296 zo_296 (by with_unfolding_all rfl) ?_
                refine zv_p (k := 1) (f' := (638, [(24, .int (0 : Int32)), (23, .int (0 : Int32)), (22, .int (0 : Int32)), (21, .int (0 : Int32)), (19, .long v11), (0, .ref p0), (2, .int p1), (3, .int p2), (4, .int p3), (5, .int p4), (6, .int p5), (7, .long p6), (9, .long p7), (11, .int p8), (12, .int p9), (13, .long p10), (15, .long p11), (17, .long p12)], [])) zq_296 zo_296 (by with_unfolding_all rfl) ?_
                refine zv_pick (lv' := [(0, .ref p0), (2, .int p1), (3, .int p2), (4, .int p3), (6, .int p5), (12, .int p9), (19, .long v11), (21, .int (0 : Int32)), (22, .int (0 : Int32)), (23, .int (0 : Int32)), (24, .int (0 : Int32))]) [0, 2, 3, 4, 6, 12, 19, 21, 22, 23, 24] rfl rfl ?_
                exact t_f_ColumnVaultLaw_isTold_638 zF _ _ _ _ _ _ _ _ _ _ _ _ _ _ hf
              · refine zv_brF (off := 39) (tt := 617) (r := []) zq_296 zo_296 hc rfl rfl rfl ?_
                refine zv_p (k := 4) (f' := (586, [(0, .ref p0), (2, .int p1), (3, .int p2), (4, .int p3), (5, .int p4), (6, .int p5), (7, .long p6), (9, .long p7), (11, .int p8), (12, .int p9), (13, .long p10), (15, .long p11), (17, .long p12), (19, .int p13)], [.int p2, .int p1, .int (12 : Int32), .ref p0])) zq_296 zo_296 (by with_unfolding_all rfl) ?_
                refine zv_lng zq_296 zo_296 rfl rfl ?_
                replace hf := zf_b2e hf
                obtain ⟨v14, h15, hv, hf⟩ := hf
                refine zv_c zq_296 zo_296 rfl rfl rfl rfl rfl rfl (t_f_ColumnVaultLaw_asks _ _ _ _ _ _ _ _ hv) ?_
                refine zv_lng zq_296 zo_296 rfl rfl ?_
                refine zv_p (k := 1) (f' := (596, [(0, .ref p0), (2, .int p1), (3, .int p2), (4, .int p3), (5, .int p4), (6, .int p5), (7, .long p6), (9, .long p7), (11, .int p8), (12, .int p9), (13, .long p10), (15, .long p11), (17, .long p12), (19, .int p13)], [.int (lg_cmp v14 (-3000000002 : Int64))])) zq_296 zo_296 (by with_unfolding_all rfl) ?_
                replace hf := zf_ite hf
                obtain ⟨hc, hf⟩ | ⟨hc, hf⟩ := hf
                · refine zv_brT (off := 19) (tt := 615) (r := []) zq_296 zo_296 (zl_ne.mpr hc) rfl rfl rfl ?_
                  refine zv_p (k := 1) (f' := (616, [(0, .ref p0), (2, .int p1), (3, .int p2), (4, .int p3), (5, .int p4), (6, .int p5), (7, .long p6), (9, .long p7), (11, .int p8), (12, .int p9), (13, .long p10), (15, .long p11), (17, .long p12), (19, .int p13)], [.int (0 : Int32)])) zq_296 zo_296 (by with_unfolding_all rfl) ?_
                  cases hf
                  exact zv_rn zq_296 zo_296 rfl rfl
                · refine zv_brF (off := 19) (tt := 615) (r := []) zq_296 zo_296 (mt zl_ne.mp hc) rfl rfl rfl ?_
                  refine zv_p (k := 4) (f' := (603, [(0, .ref p0), (2, .int p1), (3, .int p2), (4, .int p3), (5, .int p4), (6, .int p5), (7, .long p6), (9, .long p7), (11, .int p8), (12, .int p9), (13, .long p10), (15, .long p11), (17, .long p12), (19, .int p13)], [.int (5 : Int32), .int p2, .int p1, .ref p0])) zq_296 zo_296 (by with_unfolding_all rfl) ?_
                  replace hf := zf_be hf
                  obtain ⟨_, ho, hf⟩ := hf
                  replace hf := zf_b3e hf
                  obtain ⟨v16, h17, hv, hf⟩ | ⟨E18, h17, hv, hf⟩ := hf
                  rotate_left
                  · cases hf; exact zv_cx zq_296 zo_296 rfl rfl rfl rfl rfl (zv_cv rfl rfl rfl (zf_ise ho) rfl) (t_f_ColumnVault_total _ _ _ _ _ _ _ hv) rfl
                  refine zv_c zq_296 zo_296 rfl rfl rfl rfl rfl (zv_cv rfl rfl rfl (zf_ise ho) rfl) (t_f_ColumnVault_total _ _ _ _ _ _ _ hv) ?_
                  refine zv_p (k := 2) (f' := (608, [(0, .ref p0), (2, .int p1), (3, .int p2), (4, .int p3), (5, .int p4), (6, .int p5), (7, .long p6), (9, .long p7), (11, .int p8), (12, .int p9), (13, .long p10), (15, .long p11), (17, .long p12), (19, .int p13)], [.int (lg_cmp v16 (0 : Int64))])) zq_296 zo_296 (by with_unfolding_all rfl) ?_
                  replace hf := zf_ite hf
                  obtain ⟨hc, hf⟩ | ⟨hc, hf⟩ := hf
                  · refine zv_brT (off := 7) (tt := 615) (r := []) zq_296 zo_296 (zl_ne.mpr hc) rfl rfl rfl ?_
                    refine zv_p (k := 1) (f' := (616, [(0, .ref p0), (2, .int p1), (3, .int p2), (4, .int p3), (5, .int p4), (6, .int p5), (7, .long p6), (9, .long p7), (11, .int p8), (12, .int p9), (13, .long p10), (15, .long p11), (17, .long p12), (19, .int p13)], [.int (0 : Int32)])) zq_296 zo_296 (by with_unfolding_all rfl) ?_
                    cases hf
                    exact zv_rn zq_296 zo_296 rfl rfl
                  · refine zv_brF (off := 7) (tt := 615) (r := []) zq_296 zo_296 (mt zl_ne.mp hc) rfl rfl rfl ?_
                    refine zv_p (k := 2) (f' := (616, [(0, .ref p0), (2, .int p1), (3, .int p2), (4, .int p3), (5, .int p4), (6, .int p5), (7, .long p6), (9, .long p7), (11, .int p8), (12, .int p9), (13, .long p10), (15, .long p11), (17, .long p12), (19, .int p13)], [.int (1 : Int32)])) zq_296 zo_296 (by with_unfolding_all rfl) ?_
                    cases hf
                    exact zv_rn zq_296 zo_296 rfl rfl
            · refine zv_brF (off := 5) (tt := 576) (r := []) zq_296 zo_296 (mt zl_eq.mp hc) rfl rfl rfl ?_
              refine zv_p (k := 1) (f' := (575, [(0, .ref p0), (2, .int p1), (3, .int p2), (4, .int p3), (5, .int p4), (6, .int p5), (7, .long p6), (9, .long p7), (11, .int p8), (12, .int p9), (13, .long p10), (15, .long p11), (17, .long p12), (19, .int p13)], [.int (0 : Int32)])) zq_296 zo_296 (by with_unfolding_all rfl) ?_
              cases hf
              exact zv_rn zq_296 zo_296 rfl rfl
    · refine zv_brF (off := 419) (tt := 513) (r := []) zq_296 zo_296 hc rfl rfl rfl ?_
      refine zv_p (k := 3) (f' := (101, [(0, .ref p0), (2, .int p1), (3, .int p2), (4, .int p3), (5, .int p4), (6, .int p5), (7, .long p6), (9, .long p7), (11, .int p8), (12, .int p9), (13, .long p10), (15, .long p11), (17, .long p12), (19, .int p13)], [.int p13, .int p1, .ref p0])) zq_296 zo_296 (by with_unfolding_all rfl) ?_
      replace hf := zf_be hf
      obtain ⟨_, ho, hf⟩ := hf
      replace hf := zf_b3e hf
      obtain ⟨v19, h20, hv, hf⟩ | ⟨E21, h20, hv, hf⟩ := hf
      rotate_left
      · cases hf; exact zv_cx zq_296 zo_296 rfl rfl rfl rfl rfl (zv_cv rfl rfl rfl (zf_ise ho) rfl) (t_f_ColumnVault_rowAt _ _ _ _ _ _ hv) rfl
      refine zv_c zq_296 zo_296 rfl rfl rfl rfl rfl (zv_cv rfl rfl rfl (zf_ise ho) rfl) (t_f_ColumnVault_rowAt _ _ _ _ _ _ hv) ?_
      refine zv_p (k := 5) (f' := (111, [(20, .int v19), (0, .ref p0), (2, .int p1), (3, .int p2), (4, .int p3), (5, .int p4), (6, .int p5), (7, .long p6), (9, .long p7), (11, .int p8), (12, .int p9), (13, .long p10), (15, .long p11), (17, .long p12), (19, .int p13)], [.int p2, .int v19, .int p1, .ref p0])) zq_296 zo_296 (by with_unfolding_all rfl) ?_
      replace hf := zf_be hf
      obtain ⟨_, ho, hf⟩ := hf
      replace hf := zf_b3e hf
      obtain ⟨v22, h23, hv, hf⟩ | ⟨E24, h23, hv, hf⟩ := hf
      rotate_left
      · cases hf; exact zv_cx zq_296 zo_296 rfl rfl rfl rfl rfl (zv_cv rfl rfl rfl (zf_ise ho) rfl) (t_f_ColumnVault_get _ _ _ _ _ _ _ hv) rfl
      refine zv_c zq_296 zo_296 rfl rfl rfl rfl rfl (zv_cv rfl rfl rfl (zf_ise ho) rfl) (t_f_ColumnVault_get _ _ _ _ _ _ _ hv) ?_
      refine zv_p (k := 7) (f' := (125, [(25, .int (0 : Int32)), (24, .int (-1 : Int32)), (23, .int (1 : Int32)), (21, .long v22), (20, .int v19), (0, .ref p0), (2, .int p1), (3, .int p2), (4, .int p3), (5, .int p4), (6, .int p5), (7, .long p6), (9, .long p7), (11, .int p8), (12, .int p9), (13, .long p10), (15, .long p11), (17, .long p12), (19, .int p13)], [])) zq_296 zo_296 (by with_unfolding_all rfl) ?_
      refine zv_pick (lv' := [(0, .ref p0), (2, .int p1), (3, .int p2), (4, .int p3), (5, .int p4), (6, .int p5), (7, .long p6), (9, .long p7), (11, .int p8), (12, .int p9), (13, .long p10), (15, .long p11), (17, .long p12), (19, .int p13), (20, .int v19), (21, .long v22), (23, .int (1 : Int32)), (24, .int (-1 : Int32)), (25, .int (0 : Int32))]) [0, 2, 3, 4, 5, 6, 7, 9, 11, 12, 13, 15, 17, 19, 20, 21, 23, 24, 25] rfl rfl ?_
      exact t_f_ColumnVaultLaw_isTold_125 ih zF _ _ _ _ _ _ _ _ _ _ _ _ _ _ _ _ _ _ _ _ _ _ hf
set_option maxHeartbeats 1000000 in
def f_ColumnVaultLaw_isTold_66 (p0 : Nat) (p1 : Int32) (p2 : Int32) (p3 : Int32) (p4 : Int32) (p5 : Int32) (p6 : Int64) (p7 : Int64) (h : zx_H) : Option ((Int32 ⊕ Nat) × zx_H) :=
  f_ColumnVaultLaw_isTold_90 zF p0 p1 p2 p3 p4 p5 p6 p7 (0 : Int32) (0 : Int32) (-3000000002 : Int64) (-3000000002 : Int64) (0 : Int64) (0 : Int32) h
set_option maxHeartbeats 4000000 in
set_option maxRecDepth 400000 in
theorem t_f_ColumnVaultLaw_isTold_66 {sc : (Nat × (Nat → Int32)) × Bool} {d : Nat} (p0 : Nat) (p1 : Int32) (p2 : Int32) (p3 : Int32) (p4 : Int32) (p5 : Int32) (p6 : Int64) (p7 : Int64) (h : zx_H) (r : (Int32 ⊕ Nat)) (h' : zx_H) (hf : f_ColumnVaultLaw_isTold_66 p0 p1 p2 p3 p4 p5 p6 p7 h = some (r, h')) : zx_T sc (d + 125) 296 (66, [(0, .ref p0), (2, .int p1), (3, .int p2), (4, .int p3), (5, .int p4), (6, .int p5), (7, .long p6)], [.long p7]) h (zf_oIx r) h' := by
  unfold f_ColumnVaultLaw_isTold_66 at hf
  refine zv_p (k := 5) (f' := (74, [(12, .int (0 : Int32)), (11, .int (0 : Int32)), (9, .long p7), (0, .ref p0), (2, .int p1), (3, .int p2), (4, .int p3), (5, .int p4), (6, .int p5), (7, .long p6)], [])) zq_296 zo_296 (by with_unfolding_all rfl) ?_
  refine zv_lng zq_296 zo_296 rfl rfl ?_
  refine zv_p (k := 1) (f' := (79, [(13, .long (-3000000002 : Int64)), (12, .int (0 : Int32)), (11, .int (0 : Int32)), (9, .long p7), (0, .ref p0), (2, .int p1), (3, .int p2), (4, .int p3), (5, .int p4), (6, .int p5), (7, .long p6)], [])) zq_296 zo_296 (by with_unfolding_all rfl) ?_
  refine zv_lng zq_296 zo_296 rfl rfl ?_
  refine zv_p (k := 5) (f' := (90, [(19, .int (0 : Int32)), (17, .long (0 : Int64)), (15, .long (-3000000002 : Int64)), (13, .long (-3000000002 : Int64)), (12, .int (0 : Int32)), (11, .int (0 : Int32)), (9, .long p7), (0, .ref p0), (2, .int p1), (3, .int p2), (4, .int p3), (5, .int p4), (6, .int p5), (7, .long p6)], [])) zq_296 zo_296 (by with_unfolding_all rfl) ?_
  refine zv_pick (lv' := [(0, .ref p0), (2, .int p1), (3, .int p2), (4, .int p3), (5, .int p4), (6, .int p5), (7, .long p6), (9, .long p7), (11, .int (0 : Int32)), (12, .int (0 : Int32)), (13, .long (-3000000002 : Int64)), (15, .long (-3000000002 : Int64)), (17, .long (0 : Int64)), (19, .int (0 : Int32))]) [0, 2, 3, 4, 5, 6, 7, 9, 11, 12, 13, 15, 17, 19] rfl rfl ?_
  exact t_f_ColumnVaultLaw_isTold_90 zF _ _ _ _ _ _ _ _ _ _ _ _ _ _ _ _ _ hf
set_option maxHeartbeats 1000000 in
def f_ColumnVaultLaw_isTold (p0 : Nat) (p1 : Nat) (p2 : Int32) (h : zx_H) : Option ((Int32 ⊕ Nat) × zx_H) :=
  zf_b (zf_is 12 p0 h) fun _ =>
  zf_b3 (f_ColumnVault_size p0 p2 (1 : Int32) h) fun v1 h2 =>
  zf_b2 (f_ColumnVaultLaw_draw p1 v1 h2) fun v4 h5 =>
  zf_b (zf_is 12 p0 h5) fun _ =>
  zf_b3 (f_ColumnVault_kind p0 p2 v4 h5) fun v6 h7 =>
  zf_b (zf_is 12 p0 h7) fun _ =>
  zf_b3 (f_ColumnVault_size p0 p2 (1 : Int32) h7) fun v9 h10 =>
  zf_b2 (f_ColumnVaultLaw_draw p1 v9 h10) fun v12 h13 =>
  zf_b (zf_is 12 p0 h13) fun _ =>
  zf_b3 (f_ColumnVault_size p0 p2 (0 : Int32) h13) fun v14 h15 =>
  zf_b2 (f_ColumnVaultLaw_value p1 v6 h15) fun v17 h18 =>
  zf_b2 (f_ColumnVaultLaw_draw p1 (3 : Int32) h18) fun v19 h20 =>
  if ¬ v19 = 0 then
    zf_b2 (f_ColumnVaultLaw_value p1 v6 h20) fun v21 h22 =>
    f_ColumnVaultLaw_isTold_66 p0 p2 v4 v6 v12 v14 v17 v21 h22
  else
    f_ColumnVaultLaw_isTold_66 p0 p2 v4 v6 v12 v14 v17 v17 h20
set_option maxHeartbeats 4000000 in
set_option maxRecDepth 400000 in
theorem t_f_ColumnVaultLaw_isTold {sc : (Nat × (Nat → Int32)) × Bool} {d : Nat} (p0 : Nat) (p1 : Nat) (p2 : Int32) (h : zx_H) (r : (Int32 ⊕ Nat)) (h' : zx_H) (hf : f_ColumnVaultLaw_isTold p0 p1 p2 h = some (r, h')) : zx_T sc (d + 125) 296 (0, [(0, .ref p0), (1, .ref p1), (2, .int p2)], []) h (zf_oIx r) h' := by
  unfold f_ColumnVaultLaw_isTold at hf
  refine zv_p (k := 4) (f' := (4, [(0, .ref p0), (1, .ref p1), (2, .int p2)], [.int (1 : Int32), .int p2, .ref p0, .ref p1])) zq_296 zo_296 (by with_unfolding_all rfl) ?_
  replace hf := zf_be hf
  obtain ⟨_, ho, hf⟩ := hf
  replace hf := zf_b3e hf
  obtain ⟨v1, h2, hv, hf⟩ | ⟨E3, h2, hv, hf⟩ := hf
  rotate_left
  · cases hf; exact zv_cx zq_296 zo_296 rfl rfl rfl rfl rfl (zv_cv rfl rfl rfl (zf_ise ho) rfl) (t_f_ColumnVault_size _ _ _ _ _ _ hv) rfl
  refine zv_c zq_296 zo_296 rfl rfl rfl rfl rfl (zv_cv rfl rfl rfl (zf_ise ho) rfl) (t_f_ColumnVault_size _ _ _ _ _ _ hv) ?_
  replace hf := zf_b2e hf
  obtain ⟨v4, h5, hv, hf⟩ := hf
  refine zv_c zq_296 zo_296 rfl rfl rfl rfl rfl rfl (t_f_ColumnVaultLaw_draw _ _ _ _ _ hv) ?_
  refine zv_p (k := 4) (f' := (14, [(3, .int v4), (0, .ref p0), (1, .ref p1), (2, .int p2)], [.int v4, .int p2, .ref p0])) zq_296 zo_296 (by with_unfolding_all rfl) ?_
  replace hf := zf_be hf
  obtain ⟨_, ho, hf⟩ := hf
  replace hf := zf_b3e hf
  obtain ⟨v6, h7, hv, hf⟩ | ⟨E8, h7, hv, hf⟩ := hf
  rotate_left
  · cases hf; exact zv_cx zq_296 zo_296 rfl rfl rfl rfl rfl (zv_cv rfl rfl rfl (zf_ise ho) rfl) (t_f_ColumnVault_kind _ _ _ _ _ _ hv) rfl
  refine zv_c zq_296 zo_296 rfl rfl rfl rfl rfl (zv_cv rfl rfl rfl (zf_ise ho) rfl) (t_f_ColumnVault_kind _ _ _ _ _ _ hv) ?_
  refine zv_p (k := 5) (f' := (23, [(4, .int v6), (3, .int v4), (0, .ref p0), (1, .ref p1), (2, .int p2)], [.int (1 : Int32), .int p2, .ref p0, .ref p1])) zq_296 zo_296 (by with_unfolding_all rfl) ?_
  replace hf := zf_be hf
  obtain ⟨_, ho, hf⟩ := hf
  replace hf := zf_b3e hf
  obtain ⟨v9, h10, hv, hf⟩ | ⟨E11, h10, hv, hf⟩ := hf
  rotate_left
  · cases hf; exact zv_cx zq_296 zo_296 rfl rfl rfl rfl rfl (zv_cv rfl rfl rfl (zf_ise ho) rfl) (t_f_ColumnVault_size _ _ _ _ _ _ hv) rfl
  refine zv_c zq_296 zo_296 rfl rfl rfl rfl rfl (zv_cv rfl rfl rfl (zf_ise ho) rfl) (t_f_ColumnVault_size _ _ _ _ _ _ hv) ?_
  replace hf := zf_b2e hf
  obtain ⟨v12, h13, hv, hf⟩ := hf
  refine zv_c zq_296 zo_296 rfl rfl rfl rfl rfl rfl (t_f_ColumnVaultLaw_draw _ _ _ _ _ hv) ?_
  refine zv_p (k := 4) (f' := (34, [(5, .int v12), (4, .int v6), (3, .int v4), (0, .ref p0), (1, .ref p1), (2, .int p2)], [.int (0 : Int32), .int p2, .ref p0])) zq_296 zo_296 (by with_unfolding_all rfl) ?_
  replace hf := zf_be hf
  obtain ⟨_, ho, hf⟩ := hf
  replace hf := zf_b3e hf
  obtain ⟨v14, h15, hv, hf⟩ | ⟨E16, h15, hv, hf⟩ := hf
  rotate_left
  · cases hf; exact zv_cx zq_296 zo_296 rfl rfl rfl rfl rfl (zv_cv rfl rfl rfl (zf_ise ho) rfl) (t_f_ColumnVault_size _ _ _ _ _ _ hv) rfl
  refine zv_c zq_296 zo_296 rfl rfl rfl rfl rfl (zv_cv rfl rfl rfl (zf_ise ho) rfl) (t_f_ColumnVault_size _ _ _ _ _ _ hv) ?_
  refine zv_p (k := 3) (f' := (42, [(6, .int v14), (5, .int v12), (4, .int v6), (3, .int v4), (0, .ref p0), (1, .ref p1), (2, .int p2)], [.int v6, .ref p1])) zq_296 zo_296 (by with_unfolding_all rfl) ?_
  replace hf := zf_b2e hf
  obtain ⟨v17, h18, hv, hf⟩ := hf
  refine zv_c zq_296 zo_296 rfl rfl rfl rfl rfl rfl (t_f_ColumnVaultLaw_value _ _ _ _ _ hv) ?_
  refine zv_p (k := 3) (f' := (49, [(7, .long v17), (6, .int v14), (5, .int v12), (4, .int v6), (3, .int v4), (0, .ref p0), (1, .ref p1), (2, .int p2)], [.int (3 : Int32), .ref p1])) zq_296 zo_296 (by with_unfolding_all rfl) ?_
  replace hf := zf_b2e hf
  obtain ⟨v19, h20, hv, hf⟩ := hf
  refine zv_c zq_296 zo_296 rfl rfl rfl rfl rfl rfl (t_f_ColumnVaultLaw_draw _ _ _ _ _ hv) ?_
  replace hf := zf_ite hf
  obtain ⟨hc, hf⟩ | ⟨hc, hf⟩ := hf
  · refine zv_brT (off := 8) (tt := 60) (r := []) zq_296 zo_296 hc rfl rfl rfl ?_
    refine zv_p (k := 2) (f' := (63, [(7, .long v17), (6, .int v14), (5, .int v12), (4, .int v6), (3, .int v4), (0, .ref p0), (1, .ref p1), (2, .int p2)], [.int v6, .ref p1])) zq_296 zo_296 (by with_unfolding_all rfl) ?_
    replace hf := zf_b2e hf
    obtain ⟨v21, h22, hv, hf⟩ := hf
    refine zv_c zq_296 zo_296 rfl rfl rfl rfl rfl rfl (t_f_ColumnVaultLaw_value _ _ _ _ _ hv) ?_
    refine zv_pick (lv' := [(0, .ref p0), (2, .int p2), (3, .int v4), (4, .int v6), (5, .int v12), (6, .int v14), (7, .long v17)]) [0, 2, 3, 4, 5, 6, 7] rfl rfl ?_
    exact t_f_ColumnVaultLaw_isTold_66 _ _ _ _ _ _ _ _ _ _ _ hf
  · refine zv_brF (off := 8) (tt := 60) (r := []) zq_296 zo_296 hc rfl rfl rfl ?_
    refine zv_p (k := 2) (f' := (66, [(7, .long v17), (6, .int v14), (5, .int v12), (4, .int v6), (3, .int v4), (0, .ref p0), (1, .ref p1), (2, .int p2)], [.long v17])) zq_296 zo_296 (by with_unfolding_all rfl) ?_
    refine zv_pick (lv' := [(0, .ref p0), (2, .int p2), (3, .int v4), (4, .int v6), (5, .int v12), (6, .int v14), (7, .long v17)]) [0, 2, 3, 4, 5, 6, 7] rfl rfl ?_
    exact t_f_ColumnVaultLaw_isTold_66 _ _ _ _ _ _ _ _ _ _ _ hf
/-! ColumnVaultLaw.areAlike (LColumnVault;I)Z -/
noncomputable def zI_298 : zd_T := [[(0, .aload_n 0, 1), (1, .iload_n 1, 1), (2, .invokestatic 192, 3), (5, .astore_n 2, 1), (6, .aload_n 0, 1), (7, .iload_n 1, 1), (8, .iload_n 1, 1), (9, .iconst 1, 1), (10, .invokevirtual 137, 3), (13, .istore_n 3, 1), (14, .aload_n 0, 1), (15, .iload_n 1, 1), (16, .iload_n 1, 1), (17, .iconst 0, 1), (18, .invokevirtual 137, 3), (21, .ifCond .ne 52, 3), (24, .aload_n 0, 1), (25, .iload_n 1, 1), (26, .iload_n 1, 1), (27, .iconst 2, 1), (28, .invokevirtual 137, 3), (31, .iload_n 3, 1)], [(32, .if_icmp .ne 41, 3), (35, .aload_n 0, 1), (36, .iload_n 1, 1), (37, .iload_n 1, 1), (38, .iconst 3, 1), (39, .invokevirtual 137, 3), (42, .ifCond .ne 31, 3), (45, .iload_n 3, 1), (46, .aload_n 2, 1), (47, .invokestatic 298, 3), (50, .if_icmp .gt 23, 3), (53, .iload_n 3, 1), (54, .aload_n 2, 1), (55, .invokestatic 298, 3), (58, .ifCond .le 7, 3), (61, .iconst 1, 1), (62, .goto 4, 3)], [(65, .iconst 0, 1), (66, .if_icmp .lt 7, 3), (69, .iconst 1, 1), (70, .goto 4, 3), (73, .iconst 0, 1), (74, .ireturn, 1)]]
theorem zo_298 : zd_of 298 = some zI_298 := rfl
set_option maxRecDepth 100000 in
theorem zq_298 : zt_m[298]? = some (⟨"ColumnVaultLaw", "areAlike", "(LColumnVault;I)Z"⟩, method_28_code, 4, some (.boolean), [], 17, 2, 0, 1, 99999, 0) := rfl
set_option maxHeartbeats 1000000 in
def f_ColumnVaultLaw_areAlike (p0 : Nat) (p1 : Int32) (h : zx_H) : Option ((Int32 ⊕ Nat) × zx_H) :=
  zf_b3 (f_ColumnVaultLaw_choice p0 p1 h) fun v1 h2 =>
  zf_b (zf_is 12 p0 h2) fun _ =>
  zf_b3 (f_ColumnVault_alike p0 p1 p1 (1 : Int32) h2) fun v4 h5 =>
  zf_b (zf_is 12 p0 h5) fun _ =>
  zf_b3 (f_ColumnVault_alike p0 p1 p1 (0 : Int32) h5) fun v7 h8 =>
  if ¬ v7 = 0 then
    some (.inl (0 : Int32), h8)
  else
    zf_b (zf_is 12 p0 h8) fun _ =>
    zf_b3 (f_ColumnVault_alike p0 p1 p1 (2 : Int32) h8) fun v10 h11 =>
    if ¬ v10 = v4 then
      some (.inl (0 : Int32), h11)
    else
      zf_b (zf_is 12 p0 h11) fun _ =>
      zf_b3 (f_ColumnVault_alike p0 p1 p1 (3 : Int32) h11) fun v13 h14 =>
      if ¬ v13 = 0 then
        some (.inl (0 : Int32), h14)
      else
        zf_b2 (f_ColumnVaultLaw_size v1 h14) fun v16 h17 =>
        if v16 < v4 then
          some (.inl (0 : Int32), h17)
        else
          zf_b2 (f_ColumnVaultLaw_size v1 h17) fun v18 h19 =>
          if v18 ≤ 0 then
            if v4 < (0 : Int32) then
              some (.inl (0 : Int32), h19)
            else
              some (.inl (1 : Int32), h19)
          else
            if v4 < (1 : Int32) then
              some (.inl (0 : Int32), h19)
            else
              some (.inl (1 : Int32), h19)
set_option maxHeartbeats 4000000 in
set_option maxRecDepth 400000 in
theorem t_f_ColumnVaultLaw_areAlike {sc : (Nat × (Nat → Int32)) × Bool} {d : Nat} (p0 : Nat) (p1 : Int32) (h : zx_H) (r : (Int32 ⊕ Nat)) (h' : zx_H) (hf : f_ColumnVaultLaw_areAlike p0 p1 h = some (r, h')) : zx_T sc (d + 6) 298 (0, [(0, .ref p0), (1, .int p1)], []) h (zf_oIx r) h' := by
  unfold f_ColumnVaultLaw_areAlike at hf
  refine zv_p (k := 2) (f' := (2, [(0, .ref p0), (1, .int p1)], [.int p1, .ref p0])) zq_298 zo_298 (by with_unfolding_all rfl) ?_
  replace hf := zf_b3e hf
  obtain ⟨v1, h2, hv, hf⟩ | ⟨E3, h2, hv, hf⟩ := hf
  rotate_left
  · cases hf; exact zv_cx zq_298 zo_298 rfl rfl rfl rfl rfl rfl (t_f_ColumnVaultLaw_choice _ _ _ _ _ hv) rfl
  refine zv_c zq_298 zo_298 rfl rfl rfl rfl rfl rfl (t_f_ColumnVaultLaw_choice _ _ _ _ _ hv) ?_
  refine zv_p (k := 5) (f' := (10, [(2, .ref v1), (0, .ref p0), (1, .int p1)], [.int (1 : Int32), .int p1, .int p1, .ref p0])) zq_298 zo_298 (by with_unfolding_all rfl) ?_
  replace hf := zf_be hf
  obtain ⟨_, ho, hf⟩ := hf
  replace hf := zf_b3e hf
  obtain ⟨v4, h5, hv, hf⟩ | ⟨E6, h5, hv, hf⟩ := hf
  rotate_left
  · cases hf; exact zv_cx zq_298 zo_298 rfl rfl rfl rfl rfl (zv_cv rfl rfl rfl (zf_ise ho) rfl) (t_f_ColumnVault_alike _ _ _ _ _ _ _ hv) rfl
  refine zv_c zq_298 zo_298 rfl rfl rfl rfl rfl (zv_cv rfl rfl rfl (zf_ise ho) rfl) (t_f_ColumnVault_alike _ _ _ _ _ _ _ hv) ?_
  refine zv_p (k := 5) (f' := (18, [(3, .int v4), (2, .ref v1), (0, .ref p0), (1, .int p1)], [.int (0 : Int32), .int p1, .int p1, .ref p0])) zq_298 zo_298 (by with_unfolding_all rfl) ?_
  replace hf := zf_be hf
  obtain ⟨_, ho, hf⟩ := hf
  replace hf := zf_b3e hf
  obtain ⟨v7, h8, hv, hf⟩ | ⟨E9, h8, hv, hf⟩ := hf
  rotate_left
  · cases hf; exact zv_cx zq_298 zo_298 rfl rfl rfl rfl rfl (zv_cv rfl rfl rfl (zf_ise ho) rfl) (t_f_ColumnVault_alike _ _ _ _ _ _ _ hv) rfl
  refine zv_c zq_298 zo_298 rfl rfl rfl rfl rfl (zv_cv rfl rfl rfl (zf_ise ho) rfl) (t_f_ColumnVault_alike _ _ _ _ _ _ _ hv) ?_
  replace hf := zf_ite hf
  obtain ⟨hc, hf⟩ | ⟨hc, hf⟩ := hf
  · refine zv_brT (off := 52) (tt := 73) (r := []) zq_298 zo_298 hc rfl rfl rfl ?_
    refine zv_p (k := 1) (f' := (74, [(3, .int v4), (2, .ref v1), (0, .ref p0), (1, .int p1)], [.int (0 : Int32)])) zq_298 zo_298 (by with_unfolding_all rfl) ?_
    cases hf
    exact zv_rn zq_298 zo_298 rfl rfl
  · refine zv_brF (off := 52) (tt := 73) (r := []) zq_298 zo_298 hc rfl rfl rfl ?_
    refine zv_p (k := 4) (f' := (28, [(3, .int v4), (2, .ref v1), (0, .ref p0), (1, .int p1)], [.int (2 : Int32), .int p1, .int p1, .ref p0])) zq_298 zo_298 (by with_unfolding_all rfl) ?_
    replace hf := zf_be hf
    obtain ⟨_, ho, hf⟩ := hf
    replace hf := zf_b3e hf
    obtain ⟨v10, h11, hv, hf⟩ | ⟨E12, h11, hv, hf⟩ := hf
    rotate_left
    · cases hf; exact zv_cx zq_298 zo_298 rfl rfl rfl rfl rfl (zv_cv rfl rfl rfl (zf_ise ho) rfl) (t_f_ColumnVault_alike _ _ _ _ _ _ _ hv) rfl
    refine zv_c zq_298 zo_298 rfl rfl rfl rfl rfl (zv_cv rfl rfl rfl (zf_ise ho) rfl) (t_f_ColumnVault_alike _ _ _ _ _ _ _ hv) ?_
    refine zv_p (k := 1) (f' := (32, [(3, .int v4), (2, .ref v1), (0, .ref p0), (1, .int p1)], [.int v4, .int v10])) zq_298 zo_298 (by with_unfolding_all rfl) ?_
    replace hf := zf_ite hf
    obtain ⟨hc, hf⟩ | ⟨hc, hf⟩ := hf
    · refine zv_brT (off := 41) (tt := 73) (r := []) zq_298 zo_298 hc rfl rfl rfl ?_
      refine zv_p (k := 1) (f' := (74, [(3, .int v4), (2, .ref v1), (0, .ref p0), (1, .int p1)], [.int (0 : Int32)])) zq_298 zo_298 (by with_unfolding_all rfl) ?_
      cases hf
      exact zv_rn zq_298 zo_298 rfl rfl
    · refine zv_brF (off := 41) (tt := 73) (r := []) zq_298 zo_298 hc rfl rfl rfl ?_
      refine zv_p (k := 4) (f' := (39, [(3, .int v4), (2, .ref v1), (0, .ref p0), (1, .int p1)], [.int (3 : Int32), .int p1, .int p1, .ref p0])) zq_298 zo_298 (by with_unfolding_all rfl) ?_
      replace hf := zf_be hf
      obtain ⟨_, ho, hf⟩ := hf
      replace hf := zf_b3e hf
      obtain ⟨v13, h14, hv, hf⟩ | ⟨E15, h14, hv, hf⟩ := hf
      rotate_left
      · cases hf; exact zv_cx zq_298 zo_298 rfl rfl rfl rfl rfl (zv_cv rfl rfl rfl (zf_ise ho) rfl) (t_f_ColumnVault_alike _ _ _ _ _ _ _ hv) rfl
      refine zv_c zq_298 zo_298 rfl rfl rfl rfl rfl (zv_cv rfl rfl rfl (zf_ise ho) rfl) (t_f_ColumnVault_alike _ _ _ _ _ _ _ hv) ?_
      replace hf := zf_ite hf
      obtain ⟨hc, hf⟩ | ⟨hc, hf⟩ := hf
      · refine zv_brT (off := 31) (tt := 73) (r := []) zq_298 zo_298 hc rfl rfl rfl ?_
        refine zv_p (k := 1) (f' := (74, [(3, .int v4), (2, .ref v1), (0, .ref p0), (1, .int p1)], [.int (0 : Int32)])) zq_298 zo_298 (by with_unfolding_all rfl) ?_
        cases hf
        exact zv_rn zq_298 zo_298 rfl rfl
      · refine zv_brF (off := 31) (tt := 73) (r := []) zq_298 zo_298 hc rfl rfl rfl ?_
        refine zv_p (k := 2) (f' := (47, [(3, .int v4), (2, .ref v1), (0, .ref p0), (1, .int p1)], [.ref v1, .int v4])) zq_298 zo_298 (by with_unfolding_all rfl) ?_
        replace hf := zf_b2e hf
        obtain ⟨v16, h17, hv, hf⟩ := hf
        refine zv_c zq_298 zo_298 rfl rfl rfl rfl rfl rfl (t_f_ColumnVaultLaw_size _ _ _ _ hv) ?_
        replace hf := zf_ite hf
        obtain ⟨hc, hf⟩ | ⟨hc, hf⟩ := hf
        · refine zv_brT (off := 23) (tt := 73) (r := []) zq_298 zo_298 hc rfl rfl rfl ?_
          refine zv_p (k := 1) (f' := (74, [(3, .int v4), (2, .ref v1), (0, .ref p0), (1, .int p1)], [.int (0 : Int32)])) zq_298 zo_298 (by with_unfolding_all rfl) ?_
          cases hf
          exact zv_rn zq_298 zo_298 rfl rfl
        · refine zv_brF (off := 23) (tt := 73) (r := []) zq_298 zo_298 hc rfl rfl rfl ?_
          refine zv_p (k := 2) (f' := (55, [(3, .int v4), (2, .ref v1), (0, .ref p0), (1, .int p1)], [.ref v1, .int v4])) zq_298 zo_298 (by with_unfolding_all rfl) ?_
          replace hf := zf_b2e hf
          obtain ⟨v18, h19, hv, hf⟩ := hf
          refine zv_c zq_298 zo_298 rfl rfl rfl rfl rfl rfl (t_f_ColumnVaultLaw_size _ _ _ _ hv) ?_
          replace hf := zf_ite hf
          obtain ⟨hc, hf⟩ | ⟨hc, hf⟩ := hf
          · refine zv_brT (off := 7) (tt := 65) (r := [.int v4]) zq_298 zo_298 hc rfl rfl rfl ?_
            refine zv_p (k := 1) (f' := (66, [(3, .int v4), (2, .ref v1), (0, .ref p0), (1, .int p1)], [.int (0 : Int32), .int v4])) zq_298 zo_298 (by with_unfolding_all rfl) ?_
            replace hf := zf_ite hf
            obtain ⟨hc, hf⟩ | ⟨hc, hf⟩ := hf
            · refine zv_brT (off := 7) (tt := 73) (r := []) zq_298 zo_298 hc rfl rfl rfl ?_
              refine zv_p (k := 1) (f' := (74, [(3, .int v4), (2, .ref v1), (0, .ref p0), (1, .int p1)], [.int (0 : Int32)])) zq_298 zo_298 (by with_unfolding_all rfl) ?_
              cases hf
              exact zv_rn zq_298 zo_298 rfl rfl
            · refine zv_brF (off := 7) (tt := 73) (r := []) zq_298 zo_298 hc rfl rfl rfl ?_
              refine zv_p (k := 2) (f' := (74, [(3, .int v4), (2, .ref v1), (0, .ref p0), (1, .int p1)], [.int (1 : Int32)])) zq_298 zo_298 (by with_unfolding_all rfl) ?_
              cases hf
              exact zv_rn zq_298 zo_298 rfl rfl
          · refine zv_brF (off := 7) (tt := 65) (r := [.int v4]) zq_298 zo_298 hc rfl rfl rfl ?_
            refine zv_p (k := 2) (f' := (66, [(3, .int v4), (2, .ref v1), (0, .ref p0), (1, .int p1)], [.int (1 : Int32), .int v4])) zq_298 zo_298 (by with_unfolding_all rfl) ?_
            replace hf := zf_ite hf
            obtain ⟨hc, hf⟩ | ⟨hc, hf⟩ := hf
            · refine zv_brT (off := 7) (tt := 73) (r := []) zq_298 zo_298 hc rfl rfl rfl ?_
              refine zv_p (k := 1) (f' := (74, [(3, .int v4), (2, .ref v1), (0, .ref p0), (1, .int p1)], [.int (0 : Int32)])) zq_298 zo_298 (by with_unfolding_all rfl) ?_
              cases hf
              exact zv_rn zq_298 zo_298 rfl rfl
            · refine zv_brF (off := 7) (tt := 73) (r := []) zq_298 zo_298 hc rfl rfl rfl ?_
              refine zv_p (k := 2) (f' := (74, [(3, .int v4), (2, .ref v1), (0, .ref p0), (1, .int p1)], [.int (1 : Int32)])) zq_298 zo_298 (by with_unfolding_all rfl) ?_
              cases hf
              exact zv_rn zq_298 zo_298 rfl rfl
