set_option maxHeartbeats 1000000 in
def f_ColumnVaultLaw_isFilter_19 (p0 : Nat) (p1 : Nat) (p2 : Int32) (p3 : Nat) (p4 : Nat) (p5 : Nat) (h : zx_H) : Option ((Int32 ⊕ Nat) × zx_H) :=
  zf_b2 (f_StringBuilder_initq2 p4 p5 h) fun _ h2 =>
  zf_b2 (zf_newa .int 1 (1 : Int32) h2) fun q3 h4 =>
  zf_b (zf_stI q3 (0 : Int32) (0 : Int32) h4) fun h5 =>
  zf_b3 (f_ColumnVaultLaw_filter (f_ColumnVaultLaw_piece 20) p1 p0 p2 p3 (0 : Int32) q3 h5) fun v6 h7 =>
  zf_b (zf_is 1 p3 h7) fun _ =>
  zf_b2 (f_StringBuilder_length p3 h7) fun v9 h10 =>
  if v9 ≤ (155 : Int32) then
    zf_b2 (f_ColumnVaultLaw_says p0 p3 h10) fun _ h12 =>
    zf_b (zf_is 12 p0 h12) fun _ =>
    zf_b3 (f_ColumnVault_errorKind p0 p2 h12) fun v13 h14 =>
    if ¬ v13 = 0 then
      some (.inl (0 : Int32), h14)
    else
      zf_b (zf_is 12 p0 h14) fun _ =>
      zf_b3 (f_ColumnVault_errorPlace p0 p2 h14) fun v16 h17 =>
      if ¬ v16 = (-1 : Int32) then
        some (.inl (0 : Int32), h17)
      else
        zf_b (zf_is 12 p0 h17) fun _ =>
        zf_b3 (f_ColumnVault_count p0 p2 h17) fun v19 h20 =>
        zf_b2 (f_ColumnVaultLaw_size v6 h20) fun v22 h23 =>
        if v19 = v22 then
          zf_b (zf_is 12 p0 h23) fun _ =>
          zf_b3 (f_ColumnVault_reads p0 p2 (0 : Int32) h23) fun v24 h25 =>
          zf_b (zf_is 12 p0 h25) fun _ =>
          zf_b3 (f_ColumnVault_reads p0 p2 (1 : Int32) h25) fun v27 h28 =>
          zf_b (zf_len v6 h28) fun v30 =>
          if v24 < v30 then
            some (.inl (0 : Int32), h28)
          else
            zf_b (zf_ldI q3 (0 : Int32) h28) fun v31 =>
            zf_b (zf_len v6 h28) fun v32 =>
            if (v31 * v32) < v24 then
              some (.inl (0 : Int32), h28)
            else
              zf_b (zf_len v6 h28) fun v33 =>
              if v27 < v33 then
                some (.inl (0 : Int32), h28)
              else
                zf_b (zf_ldI q3 (0 : Int32) h28) fun v34 =>
                zf_b (zf_len v6 h28) fun v35 =>
                if (v34 * v35) < v27 then
                  some (.inl (0 : Int32), h28)
                else
                  zf_b (zf_ldI q3 (0 : Int32) h28) fun v36 =>
                  if ¬ v36 = (1 : Int32) then
                    f_ColumnVaultLaw_isFilter_169 p0 p1 p2 p3 v6 h28
                  else
                    zf_b (zf_len v6 h28) fun v37 =>
                    if v24 = v37 then
                      f_ColumnVaultLaw_isFilter_169 p0 p1 p2 p3 v6 h28
                    else
                      some (.inl (0 : Int32), h28)
        else
          some (.inl (0 : Int32), h23)
  else
    some (.inl (1 : Int32), h10)
set_option maxHeartbeats 4000000 in
set_option maxRecDepth 400000 in
theorem t_f_ColumnVaultLaw_isFilter_19 {sc : (Nat × (Nat → Int32)) × Bool} {d : Nat} (p0 : Nat) (p1 : Nat) (p2 : Int32) (p3 : Nat) (p4 : Nat) (p5 : Nat) (h : zx_H) (r : (Int32 ⊕ Nat)) (h' : zx_H) (hf : f_ColumnVaultLaw_isFilter_19 p0 p1 p2 p3 p4 p5 h = some (r, h')) : zx_T sc (d + 187) 256 (19, [(0, .ref p0), (1, .ref p1), (2, .int p2)], [.ref p5, .ref p4, .ref p3]) h (zf_oIx r) h' := by
  unfold f_ColumnVaultLaw_isFilter_19 at hf
  replace hf := zf_b2e hf
  obtain ⟨v1, h2, hv, hf⟩ := hf
  refine zv_c zq_256 zo_256 rfl rfl rfl rfl rfl rfl (t_f_StringBuilder_initq2 _ _ _ _ _ hv) ?_
  refine zv_p (k := 2) (f' := (24, [(3, .ref p3), (0, .ref p0), (1, .ref p1), (2, .int p2)], [.int (1 : Int32)])) zq_256 zo_256 (by with_unfolding_all rfl) ?_
  replace hf := zf_b2e hf
  obtain ⟨q3, h4, hv, hf⟩ := hf
  refine zv_newa zq_256 zo_256 rfl rfl hv ?_
  refine zv_p (k := 3) (f' := (29, [(3, .ref p3), (0, .ref p0), (1, .ref p1), (2, .int p2)], [.int (0 : Int32), .int (0 : Int32), .ref q3, .ref q3])) zq_256 zo_256 (by with_unfolding_all rfl) ?_
  replace hf := zf_be hf
  obtain ⟨h5, hv, hf⟩ := hf
  refine zv_stI zq_256 zo_256 rfl hv ?_
  refine zv_p (k := 7) (f' := (39, [(4, .ref q3), (3, .ref p3), (0, .ref p0), (1, .ref p1), (2, .int p2)], [.ref q3, .int (0 : Int32), .ref p3, .int p2, .ref p0, .ref p1])) zq_256 zo_256 (by with_unfolding_all rfl) ?_
  replace hf := zf_b3e hf
  obtain ⟨v6, h7, hv, hf⟩ | ⟨E8, h7, hv, hf⟩ := hf
  rotate_left
  · cases hf; exact zv_cx zq_256 zo_256 rfl rfl rfl rfl rfl rfl (tc_f_ColumnVaultLaw_filter _ _ _ _ _ _ _ _ _ hv) rfl
  refine zv_c zq_256 zo_256 rfl rfl rfl rfl rfl rfl (tc_f_ColumnVaultLaw_filter _ _ _ _ _ _ _ _ _ hv) ?_
  refine zv_p (k := 2) (f' := (45, [(5, .ref v6), (4, .ref q3), (3, .ref p3), (0, .ref p0), (1, .ref p1), (2, .int p2)], [.ref p3])) zq_256 zo_256 (by with_unfolding_all rfl) ?_
  replace hf := zf_be hf
  obtain ⟨_, ho, hf⟩ := hf
  replace hf := zf_b2e hf
  obtain ⟨v9, h10, hv, hf⟩ := hf
  refine zv_c zq_256 zo_256 rfl rfl rfl rfl rfl (zv_cv rfl rfl rfl (zf_ise ho) rfl) (t_f_StringBuilder_length _ _ _ _ hv) ?_
  refine zv_p (k := 1) (f' := (51, [(5, .ref v6), (4, .ref q3), (3, .ref p3), (0, .ref p0), (1, .ref p1), (2, .int p2)], [.int (155 : Int32), .int v9])) zq_256 zo_256 (by with_unfolding_all rfl) ?_
  replace hf := zf_ite hf
  obtain ⟨hc, hf⟩ | ⟨hc, hf⟩ := hf
  · refine zv_brT (off := 5) (tt := 56) (r := []) zq_256 zo_256 hc rfl rfl rfl ?_
    refine zv_p (k := 2) (f' := (58, [(5, .ref v6), (4, .ref q3), (3, .ref p3), (0, .ref p0), (1, .ref p1), (2, .int p2)], [.ref p3, .ref p0])) zq_256 zo_256 (by with_unfolding_all rfl) ?_
    replace hf := zf_b2e hf
    obtain ⟨v11, h12, hv, hf⟩ := hf
    refine zv_c zq_256 zo_256 rfl rfl rfl rfl rfl rfl (t_f_ColumnVaultLaw_says _ _ _ _ _ hv) ?_
    refine zv_p (k := 2) (f' := (63, [(5, .ref v6), (4, .ref q3), (3, .ref p3), (0, .ref p0), (1, .ref p1), (2, .int p2)], [.int p2, .ref p0])) zq_256 zo_256 (by with_unfolding_all rfl) ?_
    replace hf := zf_be hf
    obtain ⟨_, ho, hf⟩ := hf
    replace hf := zf_b3e hf
    obtain ⟨v13, h14, hv, hf⟩ | ⟨E15, h14, hv, hf⟩ := hf
    rotate_left
    · cases hf; exact zv_cx zq_256 zo_256 rfl rfl rfl rfl rfl (zv_cv rfl rfl rfl (zf_ise ho) rfl) (t_f_ColumnVault_errorKind _ _ _ _ _ hv) rfl
    refine zv_c zq_256 zo_256 rfl rfl rfl rfl rfl (zv_cv rfl rfl rfl (zf_ise ho) rfl) (t_f_ColumnVault_errorKind _ _ _ _ _ hv) ?_
    replace hf := zf_ite hf
    obtain ⟨hc, hf⟩ | ⟨hc, hf⟩ := hf
    · refine zv_brT (off := 25) (tt := 91) (r := []) zq_256 zo_256 hc rfl rfl rfl ?_
      refine zv_p (k := 1) (f' := (92, [(5, .ref v6), (4, .ref q3), (3, .ref p3), (0, .ref p0), (1, .ref p1), (2, .int p2)], [.int (0 : Int32)])) zq_256 zo_256 (by with_unfolding_all rfl) ?_
      cases hf
      exact zv_rn zq_256 zo_256 rfl rfl
    · refine zv_brF (off := 25) (tt := 91) (r := []) zq_256 zo_256 hc rfl rfl rfl ?_
      refine zv_p (k := 2) (f' := (71, [(5, .ref v6), (4, .ref q3), (3, .ref p3), (0, .ref p0), (1, .ref p1), (2, .int p2)], [.int p2, .ref p0])) zq_256 zo_256 (by with_unfolding_all rfl) ?_
      replace hf := zf_be hf
      obtain ⟨_, ho, hf⟩ := hf
      replace hf := zf_b3e hf
      obtain ⟨v16, h17, hv, hf⟩ | ⟨E18, h17, hv, hf⟩ := hf
      rotate_left
      · cases hf; exact zv_cx zq_256 zo_256 rfl rfl rfl rfl rfl (zv_cv rfl rfl rfl (zf_ise ho) rfl) (t_f_ColumnVault_errorPlace _ _ _ _ _ hv) rfl
      refine zv_c zq_256 zo_256 rfl rfl rfl rfl rfl (zv_cv rfl rfl rfl (zf_ise ho) rfl) (t_f_ColumnVault_errorPlace _ _ _ _ _ hv) ?_
      refine zv_p (k := 1) (f' := (75, [(5, .ref v6), (4, .ref q3), (3, .ref p3), (0, .ref p0), (1, .ref p1), (2, .int p2)], [.int (-1 : Int32), .int v16])) zq_256 zo_256 (by with_unfolding_all rfl) ?_
      replace hf := zf_ite hf
      obtain ⟨hc, hf⟩ | ⟨hc, hf⟩ := hf
      · refine zv_brT (off := 16) (tt := 91) (r := []) zq_256 zo_256 hc rfl rfl rfl ?_
        refine zv_p (k := 1) (f' := (92, [(5, .ref v6), (4, .ref q3), (3, .ref p3), (0, .ref p0), (1, .ref p1), (2, .int p2)], [.int (0 : Int32)])) zq_256 zo_256 (by with_unfolding_all rfl) ?_
        cases hf
        exact zv_rn zq_256 zo_256 rfl rfl
      · refine zv_brF (off := 16) (tt := 91) (r := []) zq_256 zo_256 hc rfl rfl rfl ?_
        refine zv_p (k := 2) (f' := (80, [(5, .ref v6), (4, .ref q3), (3, .ref p3), (0, .ref p0), (1, .ref p1), (2, .int p2)], [.int p2, .ref p0])) zq_256 zo_256 (by with_unfolding_all rfl) ?_
        replace hf := zf_be hf
        obtain ⟨_, ho, hf⟩ := hf
        replace hf := zf_b3e hf
        obtain ⟨v19, h20, hv, hf⟩ | ⟨E21, h20, hv, hf⟩ := hf
        rotate_left
        · cases hf; exact zv_cx zq_256 zo_256 rfl rfl rfl rfl rfl (zv_cv rfl rfl rfl (zf_ise ho) rfl) (t_f_ColumnVault_count _ _ _ _ _ hv) rfl
        refine zv_c zq_256 zo_256 rfl rfl rfl rfl rfl (zv_cv rfl rfl rfl (zf_ise ho) rfl) (t_f_ColumnVault_count _ _ _ _ _ hv) ?_
        refine zv_p (k := 1) (f' := (85, [(5, .ref v6), (4, .ref q3), (3, .ref p3), (0, .ref p0), (1, .ref p1), (2, .int p2)], [.ref v6, .int v19])) zq_256 zo_256 (by with_unfolding_all rfl) ?_
        replace hf := zf_b2e hf
        obtain ⟨v22, h23, hv, hf⟩ := hf
        refine zv_c zq_256 zo_256 rfl rfl rfl rfl rfl rfl (t_f_ColumnVaultLaw_size _ _ _ _ hv) ?_
        replace hf := zf_ite hf
        obtain ⟨hc, hf⟩ | ⟨hc, hf⟩ := hf
        · refine zv_brT (off := 5) (tt := 93) (r := []) zq_256 zo_256 hc rfl rfl rfl ?_
          refine zv_p (k := 3) (f' := (96, [(5, .ref v6), (4, .ref q3), (3, .ref p3), (0, .ref p0), (1, .ref p1), (2, .int p2)], [.int (0 : Int32), .int p2, .ref p0])) zq_256 zo_256 (by with_unfolding_all rfl) ?_
          replace hf := zf_be hf
          obtain ⟨_, ho, hf⟩ := hf
          replace hf := zf_b3e hf
          obtain ⟨v24, h25, hv, hf⟩ | ⟨E26, h25, hv, hf⟩ := hf
          rotate_left
          · cases hf; exact zv_cx zq_256 zo_256 rfl rfl rfl rfl rfl (zv_cv rfl rfl rfl (zf_ise ho) rfl) (t_f_ColumnVault_reads _ _ _ _ _ _ hv) rfl
          refine zv_c zq_256 zo_256 rfl rfl rfl rfl rfl (zv_cv rfl rfl rfl (zf_ise ho) rfl) (t_f_ColumnVault_reads _ _ _ _ _ _ hv) ?_
          refine zv_p (k := 4) (f' := (104, [(6, .int v24), (5, .ref v6), (4, .ref q3), (3, .ref p3), (0, .ref p0), (1, .ref p1), (2, .int p2)], [.int (1 : Int32), .int p2, .ref p0])) zq_256 zo_256 (by with_unfolding_all rfl) ?_
          replace hf := zf_be hf
          obtain ⟨_, ho, hf⟩ := hf
          replace hf := zf_b3e hf
          obtain ⟨v27, h28, hv, hf⟩ | ⟨E29, h28, hv, hf⟩ := hf
          rotate_left
          · cases hf; exact zv_cx zq_256 zo_256 rfl rfl rfl rfl rfl (zv_cv rfl rfl rfl (zf_ise ho) rfl) (t_f_ColumnVault_reads _ _ _ _ _ _ hv) rfl
          refine zv_c zq_256 zo_256 rfl rfl rfl rfl rfl (zv_cv rfl rfl rfl (zf_ise ho) rfl) (t_f_ColumnVault_reads _ _ _ _ _ _ hv) ?_
          refine zv_p (k := 3) (f' := (113, [(7, .int v27), (6, .int v24), (5, .ref v6), (4, .ref q3), (3, .ref p3), (0, .ref p0), (1, .ref p1), (2, .int p2)], [.ref v6, .int v24])) zq_256 zo_256 (by with_unfolding_all rfl) ?_
          replace hf := zf_be hf
          obtain ⟨v30, hv, hf⟩ := hf
          refine zv_len zq_256 zo_256 rfl hv ?_
          replace hf := zf_ite hf
          obtain ⟨hc, hf⟩ | ⟨hc, hf⟩ := hf
          · refine zv_brT (off := 53) (tt := 167) (r := []) zq_256 zo_256 hc rfl rfl rfl ?_
            refine zv_p (k := 1) (f' := (168, [(7, .int v27), (6, .int v24), (5, .ref v6), (4, .ref q3), (3, .ref p3), (0, .ref p0), (1, .ref p1), (2, .int p2)], [.int (0 : Int32)])) zq_256 zo_256 (by with_unfolding_all rfl) ?_
            cases hf
            exact zv_rn zq_256 zo_256 rfl rfl
          · refine zv_brF (off := 53) (tt := 167) (r := []) zq_256 zo_256 hc rfl rfl rfl ?_
            refine zv_p (k := 3) (f' := (122, [(7, .int v27), (6, .int v24), (5, .ref v6), (4, .ref q3), (3, .ref p3), (0, .ref p0), (1, .ref p1), (2, .int p2)], [.int (0 : Int32), .ref q3, .int v24])) zq_256 zo_256 (by with_unfolding_all rfl) ?_
            replace hf := zf_be hf
            obtain ⟨v31, hv, hf⟩ := hf
            refine zv_ldI zq_256 zo_256 rfl hv ?_
            refine zv_p (k := 1) (f' := (125, [(7, .int v27), (6, .int v24), (5, .ref v6), (4, .ref q3), (3, .ref p3), (0, .ref p0), (1, .ref p1), (2, .int p2)], [.ref v6, .int v31, .int v24])) zq_256 zo_256 (by with_unfolding_all rfl) ?_
            replace hf := zf_be hf
            obtain ⟨v32, hv, hf⟩ := hf
            refine zv_len zq_256 zo_256 rfl hv ?_
            refine zv_p (k := 1) (f' := (127, [(7, .int v27), (6, .int v24), (5, .ref v6), (4, .ref q3), (3, .ref p3), (0, .ref p0), (1, .ref p1), (2, .int p2)], [.int (v31 * v32), .int v24])) zq_256 zo_256 (by with_unfolding_all rfl) ?_
            replace hf := zf_ite hf
            obtain ⟨hc, hf⟩ | ⟨hc, hf⟩ := hf
            · refine zv_brT (off := 40) (tt := 167) (r := []) zq_256 zo_256 hc rfl rfl rfl ?_
              refine zv_p (k := 1) (f' := (168, [(7, .int v27), (6, .int v24), (5, .ref v6), (4, .ref q3), (3, .ref p3), (0, .ref p0), (1, .ref p1), (2, .int p2)], [.int (0 : Int32)])) zq_256 zo_256 (by with_unfolding_all rfl) ?_
              cases hf
              exact zv_rn zq_256 zo_256 rfl rfl
            · refine zv_brF (off := 40) (tt := 167) (r := []) zq_256 zo_256 hc rfl rfl rfl ?_
              refine zv_p (k := 2) (f' := (134, [(7, .int v27), (6, .int v24), (5, .ref v6), (4, .ref q3), (3, .ref p3), (0, .ref p0), (1, .ref p1), (2, .int p2)], [.ref v6, .int v27])) zq_256 zo_256 (by with_unfolding_all rfl) ?_
              replace hf := zf_be hf
              obtain ⟨v33, hv, hf⟩ := hf
              refine zv_len zq_256 zo_256 rfl hv ?_
              replace hf := zf_ite hf
              obtain ⟨hc, hf⟩ | ⟨hc, hf⟩ := hf
              · refine zv_brT (off := 32) (tt := 167) (r := []) zq_256 zo_256 hc rfl rfl rfl ?_
                refine zv_p (k := 1) (f' := (168, [(7, .int v27), (6, .int v24), (5, .ref v6), (4, .ref q3), (3, .ref p3), (0, .ref p0), (1, .ref p1), (2, .int p2)], [.int (0 : Int32)])) zq_256 zo_256 (by with_unfolding_all rfl) ?_
                cases hf
                exact zv_rn zq_256 zo_256 rfl rfl
              · refine zv_brF (off := 32) (tt := 167) (r := []) zq_256 zo_256 hc rfl rfl rfl ?_
                refine zv_p (k := 3) (f' := (143, [(7, .int v27), (6, .int v24), (5, .ref v6), (4, .ref q3), (3, .ref p3), (0, .ref p0), (1, .ref p1), (2, .int p2)], [.int (0 : Int32), .ref q3, .int v27])) zq_256 zo_256 (by with_unfolding_all rfl) ?_
                replace hf := zf_be hf
                obtain ⟨v34, hv, hf⟩ := hf
                refine zv_ldI zq_256 zo_256 rfl hv ?_
                refine zv_p (k := 1) (f' := (146, [(7, .int v27), (6, .int v24), (5, .ref v6), (4, .ref q3), (3, .ref p3), (0, .ref p0), (1, .ref p1), (2, .int p2)], [.ref v6, .int v34, .int v27])) zq_256 zo_256 (by with_unfolding_all rfl) ?_
                replace hf := zf_be hf
                obtain ⟨v35, hv, hf⟩ := hf
                refine zv_len zq_256 zo_256 rfl hv ?_
                refine zv_p (k := 1) (f' := (148, [(7, .int v27), (6, .int v24), (5, .ref v6), (4, .ref q3), (3, .ref p3), (0, .ref p0), (1, .ref p1), (2, .int p2)], [.int (v34 * v35), .int v27])) zq_256 zo_256 (by with_unfolding_all rfl) ?_
                replace hf := zf_ite hf
                obtain ⟨hc, hf⟩ | ⟨hc, hf⟩ := hf
                · refine zv_brT (off := 19) (tt := 167) (r := []) zq_256 zo_256 hc rfl rfl rfl ?_
                  refine zv_p (k := 1) (f' := (168, [(7, .int v27), (6, .int v24), (5, .ref v6), (4, .ref q3), (3, .ref p3), (0, .ref p0), (1, .ref p1), (2, .int p2)], [.int (0 : Int32)])) zq_256 zo_256 (by with_unfolding_all rfl) ?_
                  cases hf
                  exact zv_rn zq_256 zo_256 rfl rfl
                · refine zv_brF (off := 19) (tt := 167) (r := []) zq_256 zo_256 hc rfl rfl rfl ?_
                  refine zv_p (k := 2) (f' := (154, [(7, .int v27), (6, .int v24), (5, .ref v6), (4, .ref q3), (3, .ref p3), (0, .ref p0), (1, .ref p1), (2, .int p2)], [.int (0 : Int32), .ref q3])) zq_256 zo_256 (by with_unfolding_all rfl) ?_
                  replace hf := zf_be hf
                  obtain ⟨v36, hv, hf⟩ := hf
                  refine zv_ldI zq_256 zo_256 rfl hv ?_
                  refine zv_p (k := 1) (f' := (156, [(7, .int v27), (6, .int v24), (5, .ref v6), (4, .ref q3), (3, .ref p3), (0, .ref p0), (1, .ref p1), (2, .int p2)], [.int (1 : Int32), .int v36])) zq_256 zo_256 (by with_unfolding_all rfl) ?_
                  replace hf := zf_ite hf
                  obtain ⟨hc, hf⟩ | ⟨hc, hf⟩ := hf
                  · refine zv_brT (off := 13) (tt := 169) (r := []) zq_256 zo_256 hc rfl rfl rfl ?_
                    refine zv_pick (lv' := [(0, .ref p0), (1, .ref p1), (2, .int p2), (3, .ref p3), (5, .ref v6)]) [0, 1, 2, 3, 5] rfl rfl ?_
                    exact t_f_ColumnVaultLaw_isFilter_169 _ _ _ _ _ _ _ _ hf
                  · refine zv_brF (off := 13) (tt := 169) (r := []) zq_256 zo_256 hc rfl rfl rfl ?_
                    refine zv_p (k := 2) (f' := (163, [(7, .int v27), (6, .int v24), (5, .ref v6), (4, .ref q3), (3, .ref p3), (0, .ref p0), (1, .ref p1), (2, .int p2)], [.ref v6, .int v24])) zq_256 zo_256 (by with_unfolding_all rfl) ?_
                    replace hf := zf_be hf
                    obtain ⟨v37, hv, hf⟩ := hf
                    refine zv_len zq_256 zo_256 rfl hv ?_
                    replace hf := zf_ite hf
                    obtain ⟨hc, hf⟩ | ⟨hc, hf⟩ := hf
                    · refine zv_brT (off := 5) (tt := 169) (r := []) zq_256 zo_256 hc rfl rfl rfl ?_
                      refine zv_pick (lv' := [(0, .ref p0), (1, .ref p1), (2, .int p2), (3, .ref p3), (5, .ref v6)]) [0, 1, 2, 3, 5] rfl rfl ?_
                      exact t_f_ColumnVaultLaw_isFilter_169 _ _ _ _ _ _ _ _ hf
                    · refine zv_brF (off := 5) (tt := 169) (r := []) zq_256 zo_256 hc rfl rfl rfl ?_
                      refine zv_p (k := 1) (f' := (168, [(7, .int v27), (6, .int v24), (5, .ref v6), (4, .ref q3), (3, .ref p3), (0, .ref p0), (1, .ref p1), (2, .int p2)], [.int (0 : Int32)])) zq_256 zo_256 (by with_unfolding_all rfl) ?_
                      cases hf
                      exact zv_rn zq_256 zo_256 rfl rfl
        · refine zv_brF (off := 5) (tt := 93) (r := []) zq_256 zo_256 hc rfl rfl rfl ?_
          refine zv_p (k := 1) (f' := (92, [(5, .ref v6), (4, .ref q3), (3, .ref p3), (0, .ref p0), (1, .ref p1), (2, .int p2)], [.int (0 : Int32)])) zq_256 zo_256 (by with_unfolding_all rfl) ?_
          cases hf
          exact zv_rn zq_256 zo_256 rfl rfl
  · refine zv_brF (off := 5) (tt := 56) (r := []) zq_256 zo_256 hc rfl rfl rfl ?_
    refine zv_p (k := 1) (f' := (55, [(5, .ref v6), (4, .ref q3), (3, .ref p3), (0, .ref p0), (1, .ref p1), (2, .int p2)], [.int (1 : Int32)])) zq_256 zo_256 (by with_unfolding_all rfl) ?_
    cases hf
    exact zv_rn zq_256 zo_256 rfl rfl
set_option maxHeartbeats 1000000 in
def f_ColumnVaultLaw_isFilter (p0 : Nat) (p1 : Nat) (p2 : Int32) (h : zx_H) : Option ((Int32 ⊕ Nat) × zx_H) :=
  zf_b2 (zf_new 1 h) fun q1 h2 =>
  zf_b2 (f_ColumnVaultLaw_draw p1 (3 : Int32) h2) fun v3 h4 =>
  if ¬ v3 = 0 then
    f_ColumnVaultLaw_isFilter_19 p0 p1 p2 q1 q1 (zx_lim + 1 + 604) h4
  else
    f_ColumnVaultLaw_isFilter_19 p0 p1 p2 q1 q1 (zx_lim + 1 + 602) h4
set_option maxHeartbeats 4000000 in
set_option maxRecDepth 400000 in
theorem t_f_ColumnVaultLaw_isFilter {sc : (Nat × (Nat → Int32)) × Bool} {d : Nat} (p0 : Nat) (p1 : Nat) (p2 : Int32) (h : zx_H) (r : (Int32 ⊕ Nat)) (h' : zx_H) (hf : f_ColumnVaultLaw_isFilter p0 p1 p2 h = some (r, h')) : zx_T sc (d + 187) 256 (0, [(0, .ref p0), (1, .ref p1), (2, .int p2)], []) h (zf_oIx r) h' := by
  unfold f_ColumnVaultLaw_isFilter at hf
  replace hf := zf_b2e hf
  obtain ⟨q1, h2, hv, hf⟩ := hf
  refine zv_new zq_256 zo_256 rfl rfl rfl hv ?_
  refine zv_p (k := 3) (f' := (6, [(0, .ref p0), (1, .ref p1), (2, .int p2)], [.int (3 : Int32), .ref p1, .ref q1, .ref q1])) zq_256 zo_256 (by with_unfolding_all rfl) ?_
  replace hf := zf_b2e hf
  obtain ⟨v3, h4, hv, hf⟩ := hf
  refine zv_c zq_256 zo_256 rfl rfl rfl rfl rfl rfl (t_f_ColumnVaultLaw_draw _ _ _ _ _ hv) ?_
  replace hf := zf_ite hf
  obtain ⟨hc, hf⟩ | ⟨hc, hf⟩ := hf
  · refine zv_brT (off := 8) (tt := 17) (r := [.ref q1, .ref q1]) zq_256 zo_256 hc rfl rfl rfl ?_
    refine zv_str zq_256 zo_256 rfl rfl ?_
    refine zv_pick (lv' := [(0, .ref p0), (1, .ref p1), (2, .int p2)]) [0, 1, 2] rfl rfl ?_
    exact t_f_ColumnVaultLaw_isFilter_19 _ _ _ _ _ _ _ _ _ hf
  · refine zv_brF (off := 8) (tt := 17) (r := [.ref q1, .ref q1]) zq_256 zo_256 hc rfl rfl rfl ?_
    refine zv_str zq_256 zo_256 rfl rfl ?_
    refine zv_p (k := 1) (f' := (19, [(0, .ref p0), (1, .ref p1), (2, .int p2)], [.ref (zx_lim + 1 + 602), .ref q1, .ref q1])) zq_256 zo_256 (by with_unfolding_all rfl) ?_
    refine zv_pick (lv' := [(0, .ref p0), (1, .ref p1), (2, .int p2)]) [0, 1, 2] rfl rfl ?_
    exact t_f_ColumnVaultLaw_isFilter_19 _ _ _ _ _ _ _ _ _ hf
/-! ColumnVaultLaw.isWrong (LColumnVault;arr II)Z -/
noncomputable def zI_283 : zd_T := [[(0, .aload_n 0, 1), (1, .iload_n 2, 1), (2, .iconst 1, 1), (3, .invokevirtual 147, 3), (6, .istore_n 3, 1), (7, .iload_n 3, 1), (8, .iconst 1, 1), (9, .if_icmp .le 17, 3), (12, .aload_n 0, 1), (13, .iload_n 2, 1), (14, .iconst 1, 1), (15, .invokevirtual 166, 3), (18, .iconst 1, 1), (19, .if_icmp .ne 7, 3), (22, .iconst 1, 1), (23, .goto 4, 3), (26, .iconst 0, 1), (27, .istore 4, 2), (29, .ldc_w 316, 3)], [(32, .aload_n 1, 1), (33, .iconst 2, 1), (34, .invokestatic 16, 3), (37, .aload_n 1, 1), (38, .ldc 55, 2), (40, .invokestatic 16, 3), (43, .imul, 1), (44, .iadd, 1), (45, .istore 5, 2), (47, .bipush 15, 2), (49, .anewarray 31, 3), (52, .dup, 1), (53, .iconst 0, 1), (54, .ldc 227, 2), (56, .aastore, 1), (57, .dup, 1), (58, .iconst 1, 1), (59, .ldc_w 317, 3), (62, .aastore, 1), (63, .dup, 1)], [(64, .iconst 2, 1), (65, .ldc_w 319, 3), (68, .aastore, 1), (69, .dup, 1), (70, .iconst 3, 1), (71, .ldc_w 321, 3), (74, .aastore, 1), (75, .dup, 1), (76, .iconst 4, 1), (77, .ldc 217, 2), (79, .aastore, 1), (80, .dup, 1), (81, .iconst 5, 1), (82, .ldc_w 323, 3), (85, .aastore, 1), (86, .dup, 1), (87, .bipush 6, 2), (89, .ldc_w 325, 3), (92, .aastore, 1), (93, .dup, 1), (94, .bipush 7, 2)], [(96, .ldc_w 327, 3), (99, .aastore, 1), (100, .dup, 1), (101, .bipush 8, 2), (103, .ldc_w 329, 3), (106, .aastore, 1), (107, .dup, 1), (108, .bipush 9, 2), (110, .ldc_w 331, 3), (113, .aastore, 1), (114, .dup, 1), (115, .bipush 10, 2), (117, .ldc_w 333, 3), (120, .aastore, 1), (121, .dup, 1), (122, .bipush 11, 2), (124, .ldc_w 335, 3), (127, .aastore, 1)], [(128, .dup, 1), (129, .bipush 12, 2), (131, .ldc_w 337, 3), (134, .aastore, 1), (135, .dup, 1), (136, .bipush 13, 2), (138, .ldc_w 339, 3), (141, .aastore, 1), (142, .dup, 1), (143, .bipush 14, 2), (145, .ldc_w 341, 3), (148, .aastore, 1), (149, .astore 6, 2), (151, .bipush 15, 2), (153, .anewarray 31, 3), (156, .dup, 1), (157, .iconst 0, 1), (158, .ldc 227, 2)], [(160, .aastore, 1), (161, .dup, 1), (162, .iconst 1, 1), (163, .new 13, 3), (166, .dup, 1), (167, .invokespecial 15, 3), (170, .ldc 227, 2), (172, .invokevirtual 219, 3), (175, .iload 5, 2), (177, .invokevirtual 222, 3), (180, .invokevirtual 26, 3), (183, .aastore, 1), (184, .dup, 1), (185, .iconst 2, 1), (186, .ldc_w 343, 3), (189, .aastore, 1), (190, .dup, 1), (191, .iconst 3, 1)], [(192, .ldc_w 345, 3), (195, .aastore, 1), (196, .dup, 1), (197, .iconst 4, 1), (198, .ldc_w 347, 3), (201, .aastore, 1), (202, .dup, 1), (203, .iconst 5, 1), (204, .ldc 227, 2), (206, .aastore, 1), (207, .dup, 1), (208, .bipush 6, 2), (210, .ldc_w 349, 3), (213, .aastore, 1), (214, .dup, 1), (215, .bipush 7, 2), (217, .ldc_w 351, 3), (220, .aastore, 1), (221, .dup, 1), (222, .bipush 8, 2)], [(224, .ldc_w 353, 3), (227, .aastore, 1), (228, .dup, 1), (229, .bipush 9, 2), (231, .ldc_w 355, 3), (234, .aastore, 1), (235, .dup, 1), (236, .bipush 10, 2), (238, .ldc_w 263, 3), (241, .aastore, 1), (242, .dup, 1), (243, .bipush 11, 2), (245, .ldc 227, 2), (247, .aastore, 1), (248, .dup, 1), (249, .bipush 12, 2), (251, .ldc_w 357, 3), (254, .aastore, 1), (255, .dup, 1)], [(256, .bipush 13, 2), (258, .ldc_w 257, 3), (261, .aastore, 1), (262, .dup, 1), (263, .bipush 14, 2), (265, .new 13, 3), (268, .dup, 1), (269, .invokespecial 15, 3), (272, .ldc 217, 2), (274, .invokevirtual 219, 3), (277, .iload_n 3, 1), (278, .invokevirtual 222, 3), (281, .ldc_w 359, 3), (284, .invokevirtual 219, 3), (287, .invokevirtual 26, 3)], [(290, .aastore, 1), (291, .astore 7, 2), (293, .bipush 15, 2), (295, .newarray .int, 2), (297, .dup, 1), (298, .iconst 0, 1), (299, .iconst 1, 1), (300, .iastore, 1), (301, .dup, 1), (302, .iconst 1, 1), (303, .iconst 2, 1), (304, .iastore, 1), (305, .dup, 1), (306, .iconst 2, 1), (307, .iconst 1, 1), (308, .iastore, 1), (309, .dup, 1), (310, .iconst 3, 1), (311, .iconst 1, 1), (312, .iastore, 1), (313, .dup, 1), (314, .iconst 4, 1), (315, .iconst 1, 1), (316, .iastore, 1), (317, .dup, 1), (318, .iconst 5, 1), (319, .iconst 1, 1)], [(320, .iastore, 1), (321, .dup, 1), (322, .bipush 6, 2), (324, .iconst 2, 1), (325, .iastore, 1), (326, .dup, 1), (327, .bipush 7, 2), (329, .iconst 2, 1), (330, .iastore, 1), (331, .dup, 1), (332, .bipush 8, 2), (334, .iconst 2, 1), (335, .iastore, 1), (336, .dup, 1), (337, .bipush 9, 2), (339, .iconst 2, 1), (340, .iastore, 1), (341, .dup, 1), (342, .bipush 10, 2), (344, .iconst 1, 1), (345, .iastore, 1), (346, .dup, 1), (347, .bipush 11, 2), (349, .iconst 1, 1), (350, .iastore, 1), (351, .dup, 1)], [(352, .bipush 12, 2), (354, .iconst 1, 1), (355, .iastore, 1), (356, .dup, 1), (357, .bipush 13, 2), (359, .iconst 1, 1), (360, .iastore, 1), (361, .dup, 1), (362, .bipush 14, 2), (364, .iconst 2, 1), (365, .iastore, 1), (366, .astore 8, 2), (368, .bipush 15, 2), (370, .newarray .int, 2), (372, .dup, 1), (373, .iconst 0, 1), (374, .iconst 0, 1), (375, .iastore, 1), (376, .dup, 1), (377, .iconst 1, 1), (378, .iconst 5, 1), (379, .iastore, 1), (380, .dup, 1), (381, .iconst 2, 1), (382, .bipush 7, 2)], [(384, .iastore, 1), (385, .dup, 1), (386, .iconst 3, 1), (387, .iconst 3, 1), (388, .iastore, 1), (389, .dup, 1), (390, .iconst 4, 1), (391, .iconst 1, 1), (392, .iastore, 1), (393, .dup, 1), (394, .iconst 5, 1), (395, .bipush 8, 2), (397, .iastore, 1), (398, .dup, 1), (399, .bipush 6, 2), (401, .bipush 18, 2), (403, .iastore, 1), (404, .dup, 1), (405, .bipush 7, 2), (407, .iconst 3, 1), (408, .iastore, 1), (409, .dup, 1), (410, .bipush 8, 2), (412, .bipush 6, 2), (414, .iastore, 1), (415, .dup, 1)], [(416, .bipush 9, 2), (418, .iconst 5, 1), (419, .iastore, 1), (420, .dup, 1), (421, .bipush 10, 2), (423, .bipush 9, 2), (425, .iastore, 1), (426, .dup, 1), (427, .bipush 11, 2), (429, .bipush 11, 2), (431, .iastore, 1), (432, .dup, 1), (433, .bipush 12, 2), (435, .bipush 7, 2), (437, .iastore, 1), (438, .dup, 1), (439, .bipush 13, 2), (441, .bipush 11, 2), (443, .iastore, 1), (444, .dup, 1), (445, .bipush 14, 2), (447, .bipush 9, 2)], [(449, .iastore, 1), (450, .astore 9, 2), (452, .aload_n 1, 1), (453, .bipush 15, 2), (455, .invokestatic 16, 3), (458, .istore 10, 2), (460, .iload 10, 2), (462, .bipush 14, 2), (464, .if_icmp .ne 11, 3), (467, .iload_n 3, 1), (468, .bipush 9, 2), (470, .if_icmp .le 5, 3), (473, .iconst 1, 1), (474, .ireturn, 1), (475, .aload_n 0, 1), (476, .new 13, 3), (479, .dup, 1)], [(480, .invokespecial 15, 3), (483, .aload 6, 2), (485, .iload 10, 2), (487, .aaload, 1), (488, .invokevirtual 219, 3), (491, .aload 7, 2), (493, .iload 10, 2), (495, .aaload, 1), (496, .invokevirtual 219, 3), (499, .invokevirtual 26, 3), (502, .invokestatic 288, 3), (505, .aload_n 0, 1), (506, .iload_n 2, 1), (507, .invokevirtual 292, 3), (510, .aload 8, 2)], [(512, .iload 10, 2), (514, .iaload, 1), (515, .if_icmp .ne 48, 3), (518, .aload_n 0, 1), (519, .iload_n 2, 1), (520, .invokevirtual 295, 3), (523, .aload 9, 2), (525, .iload 10, 2), (527, .iaload, 1), (528, .if_icmp .ne 35, 3), (531, .aload_n 0, 1), (532, .bipush 8, 2), (534, .iload_n 2, 1), (535, .iconst 0, 1), (536, .lconst 0, 1), (537, .invokestatic 278, 3), (540, .ldc2_w 164, 3), (543, .lcmp, 1)], [(544, .ifCond .ne 19, 3), (547, .aload_n 0, 1), (548, .bipush 7, 2), (550, .iload_n 2, 1), (551, .iconst 0, 1), (552, .lconst 0, 1), (553, .invokestatic 278, 3), (556, .ldc2_w 164, 3), (559, .lcmp, 1), (560, .ifCond .eq 5, 3), (563, .iconst 0, 1), (564, .ireturn, 1), (565, .aload_n 0, 1), (566, .iload 4, 2), (568, .ifCond .eq 9, 3), (571, .ldc_w 361, 3), (574, .goto 6, 3)], [(577, .ldc_w 363, 3), (580, .invokestatic 288, 3), (583, .aload_n 0, 1), (584, .iload_n 2, 1), (585, .invokevirtual 292, 3), (588, .iconst 3, 1), (589, .if_icmp .ne 16, 3), (592, .aload_n 0, 1), (593, .iload_n 2, 1), (594, .invokevirtual 295, 3), (597, .iconst 5, 1), (598, .if_icmp .ne 7, 3), (601, .iconst 1, 1), (602, .goto 4, 3), (605, .iconst 0, 1), (606, .ireturn, 1)]]
theorem zo_283 : zd_of 283 = some zI_283 := rfl
set_option maxRecDepth 100000 in
theorem zq_283 : zt_m[283]? = some (⟨"ColumnVaultLaw", "isWrong", "(LColumnVault;[II)Z"⟩, method_24_code, 11, some (.boolean), [], 17, 3, 0, 1, 99999, 0) := rfl
set_option maxHeartbeats 1000000 in
def f_ColumnVaultLaw_isWrong_580 (p0 : Nat) (p1 : Int32) (p2 : Nat) (p3 : Nat) (h : zx_H) : Option ((Int32 ⊕ Nat) × zx_H) :=
  zf_b2 (f_ColumnVaultLaw_says p2 p3 h) fun _ h2 =>
  zf_b (zf_is 12 p0 h2) fun _ =>
  zf_b3 (f_ColumnVault_errorKind p0 p1 h2) fun v3 h4 =>
  if ¬ v3 = (3 : Int32) then
    some (.inl (0 : Int32), h4)
  else
    zf_b (zf_is 12 p0 h4) fun _ =>
    zf_b3 (f_ColumnVault_errorPlace p0 p1 h4) fun v6 h7 =>
    if ¬ v6 = (5 : Int32) then
      some (.inl (0 : Int32), h7)
    else
      some (.inl (1 : Int32), h7)
set_option maxHeartbeats 4000000 in
set_option maxRecDepth 400000 in
theorem t_f_ColumnVaultLaw_isWrong_580 {sc : (Nat × (Nat → Int32)) × Bool} {d : Nat} (p0 : Nat) (p1 : Int32) (p2 : Nat) (p3 : Nat) (h : zx_H) (r : (Int32 ⊕ Nat)) (h' : zx_H) (hf : f_ColumnVaultLaw_isWrong_580 p0 p1 p2 p3 h = some (r, h')) : zx_T sc (d + 126) 283 (580, [(0, .ref p0), (2, .int p1)], [.ref p3, .ref p2]) h (zf_oIx r) h' := by
  unfold f_ColumnVaultLaw_isWrong_580 at hf
  replace hf := zf_b2e hf
  obtain ⟨v1, h2, hv, hf⟩ := hf
  refine zv_c zq_283 zo_283 rfl rfl rfl rfl rfl rfl (t_f_ColumnVaultLaw_says _ _ _ _ _ hv) ?_
  refine zv_p (k := 2) (f' := (585, [(0, .ref p0), (2, .int p1)], [.int p1, .ref p0])) zq_283 zo_283 (by with_unfolding_all rfl) ?_
  replace hf := zf_be hf
  obtain ⟨_, ho, hf⟩ := hf
  replace hf := zf_b3e hf
  obtain ⟨v3, h4, hv, hf⟩ | ⟨E5, h4, hv, hf⟩ := hf
  rotate_left
  · cases hf; exact zv_cx zq_283 zo_283 rfl rfl rfl rfl rfl (zv_cv rfl rfl rfl (zf_ise ho) rfl) (t_f_ColumnVault_errorKind _ _ _ _ _ hv) rfl
  refine zv_c zq_283 zo_283 rfl rfl rfl rfl rfl (zv_cv rfl rfl rfl (zf_ise ho) rfl) (t_f_ColumnVault_errorKind _ _ _ _ _ hv) ?_
  refine zv_p (k := 1) (f' := (589, [(0, .ref p0), (2, .int p1)], [.int (3 : Int32), .int v3])) zq_283 zo_283 (by with_unfolding_all rfl) ?_
  replace hf := zf_ite hf
  obtain ⟨hc, hf⟩ | ⟨hc, hf⟩ := hf
  · refine zv_brT (off := 16) (tt := 605) (r := []) zq_283 zo_283 hc rfl rfl rfl ?_
    refine zv_p (k := 1) (f' := (606, [(0, .ref p0), (2, .int p1)], [.int (0 : Int32)])) zq_283 zo_283 (by with_unfolding_all rfl) ?_
    cases hf
    exact zv_rn zq_283 zo_283 rfl rfl
  · refine zv_brF (off := 16) (tt := 605) (r := []) zq_283 zo_283 hc rfl rfl rfl ?_
    refine zv_p (k := 2) (f' := (594, [(0, .ref p0), (2, .int p1)], [.int p1, .ref p0])) zq_283 zo_283 (by with_unfolding_all rfl) ?_
    replace hf := zf_be hf
    obtain ⟨_, ho, hf⟩ := hf
    replace hf := zf_b3e hf
    obtain ⟨v6, h7, hv, hf⟩ | ⟨E8, h7, hv, hf⟩ := hf
    rotate_left
    · cases hf; exact zv_cx zq_283 zo_283 rfl rfl rfl rfl rfl (zv_cv rfl rfl rfl (zf_ise ho) rfl) (t_f_ColumnVault_errorPlace _ _ _ _ _ hv) rfl
    refine zv_c zq_283 zo_283 rfl rfl rfl rfl rfl (zv_cv rfl rfl rfl (zf_ise ho) rfl) (t_f_ColumnVault_errorPlace _ _ _ _ _ hv) ?_
    refine zv_p (k := 1) (f' := (598, [(0, .ref p0), (2, .int p1)], [.int (5 : Int32), .int v6])) zq_283 zo_283 (by with_unfolding_all rfl) ?_
    replace hf := zf_ite hf
    obtain ⟨hc, hf⟩ | ⟨hc, hf⟩ := hf
    · refine zv_brT (off := 7) (tt := 605) (r := []) zq_283 zo_283 hc rfl rfl rfl ?_
      refine zv_p (k := 1) (f' := (606, [(0, .ref p0), (2, .int p1)], [.int (0 : Int32)])) zq_283 zo_283 (by with_unfolding_all rfl) ?_
      cases hf
      exact zv_rn zq_283 zo_283 rfl rfl
    · refine zv_brF (off := 7) (tt := 605) (r := []) zq_283 zo_283 hc rfl rfl rfl ?_
      refine zv_p (k := 2) (f' := (606, [(0, .ref p0), (2, .int p1)], [.int (1 : Int32)])) zq_283 zo_283 (by with_unfolding_all rfl) ?_
      cases hf
      exact zv_rn zq_283 zo_283 rfl rfl
