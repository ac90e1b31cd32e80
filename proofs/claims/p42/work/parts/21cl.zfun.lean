set_option maxHeartbeats 1000000 in
def f_ColumnVaultLaw_areRefused_30 (p0 : Nat) (p1 : Int32) (p2 : Int32) (h : zx_H) : Option ((Int32 ⊕ Nat) × zx_H) :=
  zf_b (zf_is 12 p0 h) fun _ =>
  zf_b3 (f_ColumnVault_size p0 (0 : Int32) (1 : Int32) h) fun v1 h2 =>
  zf_b2 (f_ColumnVaultLaw_asks p0 (0 : Int32) p2 (9 : Int32) (0 : Int64) h2) fun v4 h5 =>
  if ¬ v4 = (-3000000001 : Int64) then
    some (.inl (0 : Int32), h5)
  else
    zf_b2 (f_ColumnVaultLaw_asks p0 (0 : Int32) (0 : Int32) (2 : Int32) (0 : Int64) h5) fun v6 h7 =>
    if ¬ v6 = (-3000000003 : Int64) then
      some (.inl (0 : Int32), h7)
    else
      zf_b2 (f_ColumnVaultLaw_asks p0 (1 : Int32) p2 (0 : Int32) (0 : Int64) h7) fun v8 h9 =>
      if ¬ v8 = (-3000000001 : Int64) then
        some (.inl (0 : Int32), h9)
      else
        zf_b2 (f_ColumnVaultLaw_asks p0 (2 : Int32) (0 : Int32) v1 (0 : Int64) h9) fun v10 h11 =>
        if ¬ v10 = (-3000000001 : Int64) then
          some (.inl (0 : Int32), h11)
        else
          zf_b2 (f_ColumnVaultLaw_asks p0 (2 : Int32) (0 : Int32) (0 : Int32) (1000001 : Int64) h11) fun v12 h13 =>
          if ¬ v12 = (-3000000003 : Int64) then
            some (.inl (0 : Int32), h13)
          else
            zf_b2 (f_ColumnVaultLaw_asks p0 (2 : Int32) (0 : Int32) (0 : Int32) (999990 : Int64) h13) fun v14 h15 =>
            if ¬ v14 = (-3000000003 : Int64) then
              some (.inl (0 : Int32), h15)
            else
              zf_b (zf_is 12 p0 h15) fun _ =>
              zf_b3 (f_ColumnVault_size p0 (0 : Int32) (0 : Int32) h15) fun v16 h17 =>
              zf_b2 (f_ColumnVaultLaw_asks p0 (6 : Int32) (0 : Int32) v16 (0 : Int64) h17) fun v19 h20 =>
              if ¬ v19 = (-3000000001 : Int64) then
                some (.inl (0 : Int32), h20)
              else
                zf_b2 (f_ColumnVaultLaw_asks p0 (12 : Int32) (0 : Int32) (0 : Int32) (6 : Int64) h20) fun v21 h22 =>
                if ¬ v21 = (-3000000003 : Int64) then
                  some (.inl (0 : Int32), h22)
                else
                  zf_b2 (f_ColumnVaultLaw_asks p0 (12 : Int32) (0 : Int32) v1 (6 : Int64) h22) fun v23 h24 =>
                  if ¬ v23 = (-3000000001 : Int64) then
                    some (.inl (0 : Int32), h24)
                  else
                    zf_b2 (f_ColumnVaultLaw_asks p0 (14 : Int32) (0 : Int32) (0 : Int32) (1000001 : Int64) h24) fun v25 h26 =>
                    if ¬ v25 = (-3000000003 : Int64) then
                      some (.inl (0 : Int32), h26)
                    else
                      zf_b2 (f_ColumnVaultLaw_asks p0 (15 : Int32) (0 : Int32) (0 : Int32) (-9000000000 : Int64) h26) fun v27 h28 =>
                      if ¬ v27 = (-3000000003 : Int64) then
                        some (.inl (0 : Int32), h28)
                      else
                        zf_b2 (f_ColumnVaultLaw_asks p0 (18 : Int32) (0 : Int32) p2 (9 : Int64) h28) fun v29 h30 =>
                        if ¬ v29 = (-3000000001 : Int64) then
                          some (.inl (0 : Int32), h30)
                        else
                          zf_b2 (f_ColumnVaultLaw_asks p0 (18 : Int32) (0 : Int32) (0 : Int32) (4 : Int64) h30) fun v31 h32 =>
                          if ¬ v31 = (-3000000003 : Int64) then
                            some (.inl (0 : Int32), h32)
                          else
                            zf_b2 (f_ColumnVaultLaw_asks p0 (21 : Int32) (0 : Int32) (4 : Int32) (0 : Int64) h32) fun v33 h34 =>
                            if ¬ v33 = (-3000000003 : Int64) then
                              some (.inl (0 : Int32), h34)
                            else
                              zf_b (zf_is 12 p0 h34) fun _ =>
                              zf_b3 (f_ColumnVault_size p0 (0 : Int32) (0 : Int32) h34) fun v35 h36 =>
                              zf_b2 (f_ColumnVaultLaw_asks p0 (20 : Int32) (0 : Int32) (0 : Int32) ((v35).toInt64) h36) fun v38 h39 =>
                              if v38 = (-3000000001 : Int64) then
                                zf_b (zf_is 12 p0 h39) fun _ =>
                                zf_b3 (f_ColumnVault_size p0 (0 : Int32) (0 : Int32) h39) fun v40 h41 =>
                                if v40 ≤ 0 then
                                  f_ColumnVaultLaw_areRefused_369 zF p0 p1 v1 (0 : Int32) h41
                                else
                                  zf_b2 (f_ColumnVaultLaw_asks p0 (3 : Int32) (0 : Int32) (0 : Int32) (1000001 : Int64) h41) fun v43 h44 =>
                                  if ¬ v43 = (-3000000003 : Int64) then
                                    some (.inl (0 : Int32), h44)
                                  else
                                    zf_b2 (f_ColumnVaultLaw_asks p0 (3 : Int32) (0 : Int32) v1 (1 : Int64) h44) fun v45 h46 =>
                                    if ¬ v45 = (-3000000001 : Int64) then
                                      some (.inl (0 : Int32), h46)
                                    else
                                      zf_b2 (f_ColumnVaultLaw_asks p0 (4 : Int32) (0 : Int32) (0 : Int32) ((v1).toInt64) h46) fun v47 h48 =>
                                      if v47 = (-3000000001 : Int64) then
                                        f_ColumnVaultLaw_areRefused_369 zF p0 p1 v1 (0 : Int32) h48
                                      else
                                        some (.inl (0 : Int32), h48)
                              else
                                some (.inl (0 : Int32), h39)
set_option maxHeartbeats 4000000 in
set_option maxRecDepth 400000 in
theorem t_f_ColumnVaultLaw_areRefused_30 {sc : (Nat × (Nat → Int32)) × Bool} {d : Nat} (p0 : Nat) (p1 : Int32) (p2 : Int32) (h : zx_H) (r : (Int32 ⊕ Nat)) (h' : zx_H) (hf : f_ColumnVaultLaw_areRefused_30 p0 p1 p2 h = some (r, h')) : zx_T sc (d + 125) 302 (30, [(0, .ref p0), (2, .int p1)], [.int p2]) h (zf_oIx r) h' := by
  unfold f_ColumnVaultLaw_areRefused_30 at hf
  refine zv_p (k := 4) (f' := (34, [(3, .int p2), (0, .ref p0), (2, .int p1)], [.int (1 : Int32), .int (0 : Int32), .ref p0])) zq_302 zo_302 (by with_unfolding_all rfl) ?_
  replace hf := zf_be hf
  obtain ⟨_, ho, hf⟩ := hf
  replace hf := zf_b3e hf
  obtain ⟨v1, h2, hv, hf⟩ | ⟨E3, h2, hv, hf⟩ := hf
  rotate_left
  · cases hf; exact zv_cx zq_302 zo_302 rfl rfl rfl rfl rfl (zv_cv rfl rfl rfl (zf_ise ho) rfl) (t_f_ColumnVault_size _ _ _ _ _ _ hv) rfl
  refine zv_c zq_302 zo_302 rfl rfl rfl rfl rfl (zv_cv rfl rfl rfl (zf_ise ho) rfl) (t_f_ColumnVault_size _ _ _ _ _ _ hv) ?_
  refine zv_p (k := 6) (f' := (45, [(4, .int v1), (3, .int p2), (0, .ref p0), (2, .int p1)], [.long (0 : Int64), .int (9 : Int32), .int p2, .int (0 : Int32), .ref p0])) zq_302 zo_302 (by with_unfolding_all rfl) ?_
  replace hf := zf_b2e hf
  obtain ⟨v4, h5, hv, hf⟩ := hf
  refine zv_c zq_302 zo_302 rfl rfl rfl rfl rfl rfl (t_f_ColumnVaultLaw_asks _ _ _ _ _ _ _ _ hv) ?_
  refine zv_lng zq_302 zo_302 rfl rfl ?_
  refine zv_p (k := 1) (f' := (52, [(4, .int v1), (3, .int p2), (0, .ref p0), (2, .int p1)], [.int (lg_cmp v4 (-3000000001 : Int64))])) zq_302 zo_302 (by with_unfolding_all rfl) ?_
  replace hf := zf_ite hf
  obtain ⟨hc, hf⟩ | ⟨hc, hf⟩ := hf
  · refine zv_brT (off := 251) (tt := 303) (r := []) zq_302 zo_302 (zl_ne.mpr hc) rfl rfl rfl ?_
    refine zv_p (k := 1) (f' := (304, [(4, .int v1), (3, .int p2), (0, .ref p0), (2, .int p1)], [.int (0 : Int32)])) zq_302 zo_302 (by with_unfolding_all rfl) ?_
    cases hf
    exact zv_rn zq_302 zo_302 rfl rfl
  · refine zv_brF (off := 251) (tt := 303) (r := []) zq_302 zo_302 (mt zl_ne.mp hc) rfl rfl rfl ?_
    refine zv_p (k := 5) (f' := (60, [(4, .int v1), (3, .int p2), (0, .ref p0), (2, .int p1)], [.long (0 : Int64), .int (2 : Int32), .int (0 : Int32), .int (0 : Int32), .ref p0])) zq_302 zo_302 (by with_unfolding_all rfl) ?_
    replace hf := zf_b2e hf
    obtain ⟨v6, h7, hv, hf⟩ := hf
    refine zv_c zq_302 zo_302 rfl rfl rfl rfl rfl rfl (t_f_ColumnVaultLaw_asks _ _ _ _ _ _ _ _ hv) ?_
    refine zv_lng zq_302 zo_302 rfl rfl ?_
    refine zv_p (k := 1) (f' := (67, [(4, .int v1), (3, .int p2), (0, .ref p0), (2, .int p1)], [.int (lg_cmp v6 (-3000000003 : Int64))])) zq_302 zo_302 (by with_unfolding_all rfl) ?_
    replace hf := zf_ite hf
    obtain ⟨hc, hf⟩ | ⟨hc, hf⟩ := hf
    · refine zv_brT (off := 236) (tt := 303) (r := []) zq_302 zo_302 (zl_ne.mpr hc) rfl rfl rfl ?_
      refine zv_p (k := 1) (f' := (304, [(4, .int v1), (3, .int p2), (0, .ref p0), (2, .int p1)], [.int (0 : Int32)])) zq_302 zo_302 (by with_unfolding_all rfl) ?_
      cases hf
      exact zv_rn zq_302 zo_302 rfl rfl
    · refine zv_brF (off := 236) (tt := 303) (r := []) zq_302 zo_302 (mt zl_ne.mp hc) rfl rfl rfl ?_
      refine zv_p (k := 5) (f' := (75, [(4, .int v1), (3, .int p2), (0, .ref p0), (2, .int p1)], [.long (0 : Int64), .int (0 : Int32), .int p2, .int (1 : Int32), .ref p0])) zq_302 zo_302 (by with_unfolding_all rfl) ?_
      replace hf := zf_b2e hf
      obtain ⟨v8, h9, hv, hf⟩ := hf
      refine zv_c zq_302 zo_302 rfl rfl rfl rfl rfl rfl (t_f_ColumnVaultLaw_asks _ _ _ _ _ _ _ _ hv) ?_
      refine zv_lng zq_302 zo_302 rfl rfl ?_
      refine zv_p (k := 1) (f' := (82, [(4, .int v1), (3, .int p2), (0, .ref p0), (2, .int p1)], [.int (lg_cmp v8 (-3000000001 : Int64))])) zq_302 zo_302 (by with_unfolding_all rfl) ?_
      replace hf := zf_ite hf
      obtain ⟨hc, hf⟩ | ⟨hc, hf⟩ := hf
      · refine zv_brT (off := 221) (tt := 303) (r := []) zq_302 zo_302 (zl_ne.mpr hc) rfl rfl rfl ?_
        refine zv_p (k := 1) (f' := (304, [(4, .int v1), (3, .int p2), (0, .ref p0), (2, .int p1)], [.int (0 : Int32)])) zq_302 zo_302 (by with_unfolding_all rfl) ?_
        cases hf
        exact zv_rn zq_302 zo_302 rfl rfl
      · refine zv_brF (off := 221) (tt := 303) (r := []) zq_302 zo_302 (mt zl_ne.mp hc) rfl rfl rfl ?_
        refine zv_p (k := 5) (f' := (91, [(4, .int v1), (3, .int p2), (0, .ref p0), (2, .int p1)], [.long (0 : Int64), .int v1, .int (0 : Int32), .int (2 : Int32), .ref p0])) zq_302 zo_302 (by with_unfolding_all rfl) ?_
        replace hf := zf_b2e hf
        obtain ⟨v10, h11, hv, hf⟩ := hf
        refine zv_c zq_302 zo_302 rfl rfl rfl rfl rfl rfl (t_f_ColumnVaultLaw_asks _ _ _ _ _ _ _ _ hv) ?_
        refine zv_lng zq_302 zo_302 rfl rfl ?_
        refine zv_p (k := 1) (f' := (98, [(4, .int v1), (3, .int p2), (0, .ref p0), (2, .int p1)], [.int (lg_cmp v10 (-3000000001 : Int64))])) zq_302 zo_302 (by with_unfolding_all rfl) ?_
        replace hf := zf_ite hf
        obtain ⟨hc, hf⟩ | ⟨hc, hf⟩ := hf
        · refine zv_brT (off := 205) (tt := 303) (r := []) zq_302 zo_302 (zl_ne.mpr hc) rfl rfl rfl ?_
          refine zv_p (k := 1) (f' := (304, [(4, .int v1), (3, .int p2), (0, .ref p0), (2, .int p1)], [.int (0 : Int32)])) zq_302 zo_302 (by with_unfolding_all rfl) ?_
          cases hf
          exact zv_rn zq_302 zo_302 rfl rfl
        · refine zv_brF (off := 205) (tt := 303) (r := []) zq_302 zo_302 (mt zl_ne.mp hc) rfl rfl rfl ?_
          refine zv_p (k := 4) (f' := (105, [(4, .int v1), (3, .int p2), (0, .ref p0), (2, .int p1)], [.int (0 : Int32), .int (0 : Int32), .int (2 : Int32), .ref p0])) zq_302 zo_302 (by with_unfolding_all rfl) ?_
          refine zv_lng zq_302 zo_302 rfl rfl ?_
          replace hf := zf_b2e hf
          obtain ⟨v12, h13, hv, hf⟩ := hf
          refine zv_c zq_302 zo_302 rfl rfl rfl rfl rfl rfl (t_f_ColumnVaultLaw_asks _ _ _ _ _ _ _ _ hv) ?_
          refine zv_lng zq_302 zo_302 rfl rfl ?_
          refine zv_p (k := 1) (f' := (115, [(4, .int v1), (3, .int p2), (0, .ref p0), (2, .int p1)], [.int (lg_cmp v12 (-3000000003 : Int64))])) zq_302 zo_302 (by with_unfolding_all rfl) ?_
          replace hf := zf_ite hf
          obtain ⟨hc, hf⟩ | ⟨hc, hf⟩ := hf
          · refine zv_brT (off := 188) (tt := 303) (r := []) zq_302 zo_302 (zl_ne.mpr hc) rfl rfl rfl ?_
            refine zv_p (k := 1) (f' := (304, [(4, .int v1), (3, .int p2), (0, .ref p0), (2, .int p1)], [.int (0 : Int32)])) zq_302 zo_302 (by with_unfolding_all rfl) ?_
            cases hf
            exact zv_rn zq_302 zo_302 rfl rfl
          · refine zv_brF (off := 188) (tt := 303) (r := []) zq_302 zo_302 (mt zl_ne.mp hc) rfl rfl rfl ?_
            refine zv_p (k := 4) (f' := (122, [(4, .int v1), (3, .int p2), (0, .ref p0), (2, .int p1)], [.int (0 : Int32), .int (0 : Int32), .int (2 : Int32), .ref p0])) zq_302 zo_302 (by with_unfolding_all rfl) ?_
            refine zv_lng zq_302 zo_302 rfl rfl ?_
            replace hf := zf_b2e hf
            obtain ⟨v14, h15, hv, hf⟩ := hf
            refine zv_c zq_302 zo_302 rfl rfl rfl rfl rfl rfl (t_f_ColumnVaultLaw_asks _ _ _ _ _ _ _ _ hv) ?_
            refine zv_lng zq_302 zo_302 rfl rfl ?_
            refine zv_p (k := 1) (f' := (132, [(4, .int v1), (3, .int p2), (0, .ref p0), (2, .int p1)], [.int (lg_cmp v14 (-3000000003 : Int64))])) zq_302 zo_302 (by with_unfolding_all rfl) ?_
            replace hf := zf_ite hf
            obtain ⟨hc, hf⟩ | ⟨hc, hf⟩ := hf
            · refine zv_brT (off := 171) (tt := 303) (r := []) zq_302 zo_302 (zl_ne.mpr hc) rfl rfl rfl ?_
              refine zv_p (k := 1) (f' := (304, [(4, .int v1), (3, .int p2), (0, .ref p0), (2, .int p1)], [.int (0 : Int32)])) zq_302 zo_302 (by with_unfolding_all rfl) ?_
              cases hf
              exact zv_rn zq_302 zo_302 rfl rfl
            · refine zv_brF (off := 171) (tt := 303) (r := []) zq_302 zo_302 (mt zl_ne.mp hc) rfl rfl rfl ?_
              refine zv_p (k := 6) (f' := (142, [(4, .int v1), (3, .int p2), (0, .ref p0), (2, .int p1)], [.int (0 : Int32), .int (0 : Int32), .ref p0, .int (0 : Int32), .int (6 : Int32), .ref p0])) zq_302 zo_302 (by with_unfolding_all rfl) ?_
              replace hf := zf_be hf
              obtain ⟨_, ho, hf⟩ := hf
              replace hf := zf_b3e hf
              obtain ⟨v16, h17, hv, hf⟩ | ⟨E18, h17, hv, hf⟩ := hf
              rotate_left
              · cases hf; exact zv_cx zq_302 zo_302 rfl rfl rfl rfl rfl (zv_cv rfl rfl rfl (zf_ise ho) rfl) (t_f_ColumnVault_size _ _ _ _ _ _ hv) rfl
              refine zv_c zq_302 zo_302 rfl rfl rfl rfl rfl (zv_cv rfl rfl rfl (zf_ise ho) rfl) (t_f_ColumnVault_size _ _ _ _ _ _ hv) ?_
              refine zv_p (k := 1) (f' := (146, [(4, .int v1), (3, .int p2), (0, .ref p0), (2, .int p1)], [.long (0 : Int64), .int v16, .int (0 : Int32), .int (6 : Int32), .ref p0])) zq_302 zo_302 (by with_unfolding_all rfl) ?_
              replace hf := zf_b2e hf
              obtain ⟨v19, h20, hv, hf⟩ := hf
              refine zv_c zq_302 zo_302 rfl rfl rfl rfl rfl rfl (t_f_ColumnVaultLaw_asks _ _ _ _ _ _ _ _ hv) ?_
              refine zv_lng zq_302 zo_302 rfl rfl ?_
              refine zv_p (k := 1) (f' := (153, [(4, .int v1), (3, .int p2), (0, .ref p0), (2, .int p1)], [.int (lg_cmp v19 (-3000000001 : Int64))])) zq_302 zo_302 (by with_unfolding_all rfl) ?_
              replace hf := zf_ite hf
              obtain ⟨hc, hf⟩ | ⟨hc, hf⟩ := hf
              · refine zv_brT (off := 150) (tt := 303) (r := []) zq_302 zo_302 (zl_ne.mpr hc) rfl rfl rfl ?_
                refine zv_p (k := 1) (f' := (304, [(4, .int v1), (3, .int p2), (0, .ref p0), (2, .int p1)], [.int (0 : Int32)])) zq_302 zo_302 (by with_unfolding_all rfl) ?_
                cases hf
                exact zv_rn zq_302 zo_302 rfl rfl
              · refine zv_brF (off := 150) (tt := 303) (r := []) zq_302 zo_302 (mt zl_ne.mp hc) rfl rfl rfl ?_
                refine zv_p (k := 4) (f' := (161, [(4, .int v1), (3, .int p2), (0, .ref p0), (2, .int p1)], [.int (0 : Int32), .int (0 : Int32), .int (12 : Int32), .ref p0])) zq_302 zo_302 (by with_unfolding_all rfl) ?_
                refine zv_lng zq_302 zo_302 rfl rfl ?_
                replace hf := zf_b2e hf
                obtain ⟨v21, h22, hv, hf⟩ := hf
                refine zv_c zq_302 zo_302 rfl rfl rfl rfl rfl rfl (t_f_ColumnVaultLaw_asks _ _ _ _ _ _ _ _ hv) ?_
                refine zv_lng zq_302 zo_302 rfl rfl ?_
                refine zv_p (k := 1) (f' := (171, [(4, .int v1), (3, .int p2), (0, .ref p0), (2, .int p1)], [.int (lg_cmp v21 (-3000000003 : Int64))])) zq_302 zo_302 (by with_unfolding_all rfl) ?_
                replace hf := zf_ite hf
                obtain ⟨hc, hf⟩ | ⟨hc, hf⟩ := hf
                · refine zv_brT (off := 132) (tt := 303) (r := []) zq_302 zo_302 (zl_ne.mpr hc) rfl rfl rfl ?_
                  refine zv_p (k := 1) (f' := (304, [(4, .int v1), (3, .int p2), (0, .ref p0), (2, .int p1)], [.int (0 : Int32)])) zq_302 zo_302 (by with_unfolding_all rfl) ?_
                  cases hf
                  exact zv_rn zq_302 zo_302 rfl rfl
                · refine zv_brF (off := 132) (tt := 303) (r := []) zq_302 zo_302 (mt zl_ne.mp hc) rfl rfl rfl ?_
                  refine zv_p (k := 4) (f' := (180, [(4, .int v1), (3, .int p2), (0, .ref p0), (2, .int p1)], [.int v1, .int (0 : Int32), .int (12 : Int32), .ref p0])) zq_302 zo_302 (by with_unfolding_all rfl) ?_
                  refine zv_lng zq_302 zo_302 rfl rfl ?_
                  replace hf := zf_b2e hf
                  obtain ⟨v23, h24, hv, hf⟩ := hf
                  refine zv_c zq_302 zo_302 rfl rfl rfl rfl rfl rfl (t_f_ColumnVaultLaw_asks _ _ _ _ _ _ _ _ hv) ?_
                  refine zv_lng zq_302 zo_302 rfl rfl ?_
                  refine zv_p (k := 1) (f' := (190, [(4, .int v1), (3, .int p2), (0, .ref p0), (2, .int p1)], [.int (lg_cmp v23 (-3000000001 : Int64))])) zq_302 zo_302 (by with_unfolding_all rfl) ?_
                  replace hf := zf_ite hf
                  obtain ⟨hc, hf⟩ | ⟨hc, hf⟩ := hf
                  · refine zv_brT (off := 113) (tt := 303) (r := []) zq_302 zo_302 (zl_ne.mpr hc) rfl rfl rfl ?_
                    refine zv_p (k := 1) (f' := (304, [(4, .int v1), (3, .int p2), (0, .ref p0), (2, .int p1)], [.int (0 : Int32)])) zq_302 zo_302 (by with_unfolding_all rfl) ?_
                    cases hf
                    exact zv_rn zq_302 zo_302 rfl rfl
                  · refine zv_brF (off := 113) (tt := 303) (r := []) zq_302 zo_302 (mt zl_ne.mp hc) rfl rfl rfl ?_
                    refine zv_p (k := 4) (f' := (198, [(4, .int v1), (3, .int p2), (0, .ref p0), (2, .int p1)], [.int (0 : Int32), .int (0 : Int32), .int (14 : Int32), .ref p0])) zq_302 zo_302 (by with_unfolding_all rfl) ?_
                    refine zv_lng zq_302 zo_302 rfl rfl ?_
                    replace hf := zf_b2e hf
                    obtain ⟨v25, h26, hv, hf⟩ := hf
                    refine zv_c zq_302 zo_302 rfl rfl rfl rfl rfl rfl (t_f_ColumnVaultLaw_asks _ _ _ _ _ _ _ _ hv) ?_
                    refine zv_lng zq_302 zo_302 rfl rfl ?_
                    refine zv_p (k := 1) (f' := (208, [(4, .int v1), (3, .int p2), (0, .ref p0), (2, .int p1)], [.int (lg_cmp v25 (-3000000003 : Int64))])) zq_302 zo_302 (by with_unfolding_all rfl) ?_
                    replace hf := zf_ite hf
                    obtain ⟨hc, hf⟩ | ⟨hc, hf⟩ := hf
                    · refine zv_brT (off := 95) (tt := 303) (r := []) zq_302 zo_302 (zl_ne.mpr hc) rfl rfl rfl ?_
                      refine zv_p (k := 1) (f' := (304, [(4, .int v1), (3, .int p2), (0, .ref p0), (2, .int p1)], [.int (0 : Int32)])) zq_302 zo_302 (by with_unfolding_all rfl) ?_
                      cases hf
                      exact zv_rn zq_302 zo_302 rfl rfl
                    · refine zv_brF (off := 95) (tt := 303) (r := []) zq_302 zo_302 (mt zl_ne.mp hc) rfl rfl rfl ?_
                      refine zv_p (k := 4) (f' := (216, [(4, .int v1), (3, .int p2), (0, .ref p0), (2, .int p1)], [.int (0 : Int32), .int (0 : Int32), .int (15 : Int32), .ref p0])) zq_302 zo_302 (by with_unfolding_all rfl) ?_
                      refine zv_lng zq_302 zo_302 rfl rfl ?_
                      replace hf := zf_b2e hf
                      obtain ⟨v27, h28, hv, hf⟩ := hf
                      refine zv_c zq_302 zo_302 rfl rfl rfl rfl rfl rfl (t_f_ColumnVaultLaw_asks _ _ _ _ _ _ _ _ hv) ?_
                      refine zv_lng zq_302 zo_302 rfl rfl ?_
                      refine zv_p (k := 1) (f' := (226, [(4, .int v1), (3, .int p2), (0, .ref p0), (2, .int p1)], [.int (lg_cmp v27 (-3000000003 : Int64))])) zq_302 zo_302 (by with_unfolding_all rfl) ?_
                      replace hf := zf_ite hf
                      obtain ⟨hc, hf⟩ | ⟨hc, hf⟩ := hf
                      · refine zv_brT (off := 77) (tt := 303) (r := []) zq_302 zo_302 (zl_ne.mpr hc) rfl rfl rfl ?_
                        refine zv_p (k := 1) (f' := (304, [(4, .int v1), (3, .int p2), (0, .ref p0), (2, .int p1)], [.int (0 : Int32)])) zq_302 zo_302 (by with_unfolding_all rfl) ?_
                        cases hf
                        exact zv_rn zq_302 zo_302 rfl rfl
                      · refine zv_brF (off := 77) (tt := 303) (r := []) zq_302 zo_302 (mt zl_ne.mp hc) rfl rfl rfl ?_
                        refine zv_p (k := 4) (f' := (234, [(4, .int v1), (3, .int p2), (0, .ref p0), (2, .int p1)], [.int p2, .int (0 : Int32), .int (18 : Int32), .ref p0])) zq_302 zo_302 (by with_unfolding_all rfl) ?_
                        refine zv_lng zq_302 zo_302 rfl rfl ?_
                        replace hf := zf_b2e hf
                        obtain ⟨v29, h30, hv, hf⟩ := hf
                        refine zv_c zq_302 zo_302 rfl rfl rfl rfl rfl rfl (t_f_ColumnVaultLaw_asks _ _ _ _ _ _ _ _ hv) ?_
                        refine zv_lng zq_302 zo_302 rfl rfl ?_
                        refine zv_p (k := 1) (f' := (244, [(4, .int v1), (3, .int p2), (0, .ref p0), (2, .int p1)], [.int (lg_cmp v29 (-3000000001 : Int64))])) zq_302 zo_302 (by with_unfolding_all rfl) ?_
                        replace hf := zf_ite hf
                        obtain ⟨hc, hf⟩ | ⟨hc, hf⟩ := hf
                        · refine zv_brT (off := 59) (tt := 303) (r := []) zq_302 zo_302 (zl_ne.mpr hc) rfl rfl rfl ?_
                          refine zv_p (k := 1) (f' := (304, [(4, .int v1), (3, .int p2), (0, .ref p0), (2, .int p1)], [.int (0 : Int32)])) zq_302 zo_302 (by with_unfolding_all rfl) ?_
                          cases hf
                          exact zv_rn zq_302 zo_302 rfl rfl
                        · refine zv_brF (off := 59) (tt := 303) (r := []) zq_302 zo_302 (mt zl_ne.mp hc) rfl rfl rfl ?_
                          refine zv_p (k := 4) (f' := (252, [(4, .int v1), (3, .int p2), (0, .ref p0), (2, .int p1)], [.int (0 : Int32), .int (0 : Int32), .int (18 : Int32), .ref p0])) zq_302 zo_302 (by with_unfolding_all rfl) ?_
                          refine zv_lng zq_302 zo_302 rfl rfl ?_
                          replace hf := zf_b2e hf
                          obtain ⟨v31, h32, hv, hf⟩ := hf
                          refine zv_c zq_302 zo_302 rfl rfl rfl rfl rfl rfl (t_f_ColumnVaultLaw_asks _ _ _ _ _ _ _ _ hv) ?_
                          refine zv_lng zq_302 zo_302 rfl rfl ?_
                          refine zv_p (k := 1) (f' := (262, [(4, .int v1), (3, .int p2), (0, .ref p0), (2, .int p1)], [.int (lg_cmp v31 (-3000000003 : Int64))])) zq_302 zo_302 (by with_unfolding_all rfl) ?_
                          replace hf := zf_ite hf
                          obtain ⟨hc, hf⟩ | ⟨hc, hf⟩ := hf
                          · refine zv_brT (off := 41) (tt := 303) (r := []) zq_302 zo_302 (zl_ne.mpr hc) rfl rfl rfl ?_
                            refine zv_p (k := 1) (f' := (304, [(4, .int v1), (3, .int p2), (0, .ref p0), (2, .int p1)], [.int (0 : Int32)])) zq_302 zo_302 (by with_unfolding_all rfl) ?_
                            cases hf
                            exact zv_rn zq_302 zo_302 rfl rfl
                          · refine zv_brF (off := 41) (tt := 303) (r := []) zq_302 zo_302 (mt zl_ne.mp hc) rfl rfl rfl ?_
                            refine zv_p (k := 5) (f' := (271, [(4, .int v1), (3, .int p2), (0, .ref p0), (2, .int p1)], [.long (0 : Int64), .int (4 : Int32), .int (0 : Int32), .int (21 : Int32), .ref p0])) zq_302 zo_302 (by with_unfolding_all rfl) ?_
                            replace hf := zf_b2e hf
                            obtain ⟨v33, h34, hv, hf⟩ := hf
                            refine zv_c zq_302 zo_302 rfl rfl rfl rfl rfl rfl (t_f_ColumnVaultLaw_asks _ _ _ _ _ _ _ _ hv) ?_
                            refine zv_lng zq_302 zo_302 rfl rfl ?_
                            refine zv_p (k := 1) (f' := (278, [(4, .int v1), (3, .int p2), (0, .ref p0), (2, .int p1)], [.int (lg_cmp v33 (-3000000003 : Int64))])) zq_302 zo_302 (by with_unfolding_all rfl) ?_
                            replace hf := zf_ite hf
                            obtain ⟨hc, hf⟩ | ⟨hc, hf⟩ := hf
                            · refine zv_brT (off := 25) (tt := 303) (r := []) zq_302 zo_302 (zl_ne.mpr hc) rfl rfl rfl ?_
                              refine zv_p (k := 1) (f' := (304, [(4, .int v1), (3, .int p2), (0, .ref p0), (2, .int p1)], [.int (0 : Int32)])) zq_302 zo_302 (by with_unfolding_all rfl) ?_
                              cases hf
                              exact zv_rn zq_302 zo_302 rfl rfl
                            · refine zv_brF (off := 25) (tt := 303) (r := []) zq_302 zo_302 (mt zl_ne.mp hc) rfl rfl rfl ?_
                              refine zv_p (k := 7) (f' := (289, [(4, .int v1), (3, .int p2), (0, .ref p0), (2, .int p1)], [.int (0 : Int32), .int (0 : Int32), .ref p0, .int (0 : Int32), .int (0 : Int32), .int (20 : Int32), .ref p0])) zq_302 zo_302 (by with_unfolding_all rfl) ?_
                              replace hf := zf_be hf
                              obtain ⟨_, ho, hf⟩ := hf
                              replace hf := zf_b3e hf
                              obtain ⟨v35, h36, hv, hf⟩ | ⟨E37, h36, hv, hf⟩ := hf
                              rotate_left
                              · cases hf; exact zv_cx zq_302 zo_302 rfl rfl rfl rfl rfl (zv_cv rfl rfl rfl (zf_ise ho) rfl) (t_f_ColumnVault_size _ _ _ _ _ _ hv) rfl
                              refine zv_c zq_302 zo_302 rfl rfl rfl rfl rfl (zv_cv rfl rfl rfl (zf_ise ho) rfl) (t_f_ColumnVault_size _ _ _ _ _ _ hv) ?_
                              refine zv_p (k := 1) (f' := (293, [(4, .int v1), (3, .int p2), (0, .ref p0), (2, .int p1)], [.long (v35).toInt64, .int (0 : Int32), .int (0 : Int32), .int (20 : Int32), .ref p0])) zq_302 zo_302 (by with_unfolding_all rfl) ?_
                              replace hf := zf_b2e hf
                              obtain ⟨v38, h39, hv, hf⟩ := hf
                              refine zv_c zq_302 zo_302 rfl rfl rfl rfl rfl rfl (t_f_ColumnVaultLaw_asks _ _ _ _ _ _ _ _ hv) ?_
                              refine zv_lng zq_302 zo_302 rfl rfl ?_
                              refine zv_p (k := 1) (f' := (300, [(4, .int v1), (3, .int p2), (0, .ref p0), (2, .int p1)], [.int (lg_cmp v38 (-3000000001 : Int64))])) zq_302 zo_302 (by with_unfolding_all rfl) ?_
                              replace hf := zf_ite hf
                              obtain ⟨hc, hf⟩ | ⟨hc, hf⟩ := hf
                              · refine zv_brT (off := 5) (tt := 305) (r := []) zq_302 zo_302 (zl_eq.mpr hc) rfl rfl rfl ?_
                                refine zv_p (k := 3) (f' := (308, [(4, .int v1), (3, .int p2), (0, .ref p0), (2, .int p1)], [.int (0 : Int32), .int (0 : Int32), .ref p0])) zq_302 zo_302 (by with_unfolding_all rfl) ?_
                                replace hf := zf_be hf
                                obtain ⟨_, ho, hf⟩ := hf
                                replace hf := zf_b3e hf
                                obtain ⟨v40, h41, hv, hf⟩ | ⟨E42, h41, hv, hf⟩ := hf
                                rotate_left
                                · cases hf; exact zv_cx zq_302 zo_302 rfl rfl rfl rfl rfl (zv_cv rfl rfl rfl (zf_ise ho) rfl) (t_f_ColumnVault_size _ _ _ _ _ _ hv) rfl
                                refine zv_c zq_302 zo_302 rfl rfl rfl rfl rfl (zv_cv rfl rfl rfl (zf_ise ho) rfl) (t_f_ColumnVault_size _ _ _ _ _ _ hv) ?_
                                replace hf := zf_ite hf
                                obtain ⟨hc, hf⟩ | ⟨hc, hf⟩ := hf
                                · refine zv_brT (off := 55) (tt := 366) (r := []) zq_302 zo_302 hc rfl rfl rfl ?_
                                  refine zv_p (k := 2) (f' := (369, [(5, .int (0 : Int32)), (4, .int v1), (3, .int p2), (0, .ref p0), (2, .int p1)], [])) zq_302 zo_302 (by with_unfolding_all rfl) ?_
                                  refine zv_pick (lv' := [(0, .ref p0), (2, .int p1), (4, .int v1), (5, .int (0 : Int32))]) [0, 2, 4, 5] rfl rfl ?_
                                  exact t_f_ColumnVaultLaw_areRefused_369 zF _ _ _ _ _ _ _ hf
                                · refine zv_brF (off := 55) (tt := 366) (r := []) zq_302 zo_302 hc rfl rfl rfl ?_
                                  refine zv_p (k := 4) (f' := (318, [(4, .int v1), (3, .int p2), (0, .ref p0), (2, .int p1)], [.int (0 : Int32), .int (0 : Int32), .int (3 : Int32), .ref p0])) zq_302 zo_302 (by with_unfolding_all rfl) ?_
                                  refine zv_lng zq_302 zo_302 rfl rfl ?_
                                  replace hf := zf_b2e hf
                                  obtain ⟨v43, h44, hv, hf⟩ := hf
                                  refine zv_c zq_302 zo_302 rfl rfl rfl rfl rfl rfl (t_f_ColumnVaultLaw_asks _ _ _ _ _ _ _ _ hv) ?_
                                  refine zv_lng zq_302 zo_302 rfl rfl ?_
                                  refine zv_p (k := 1) (f' := (328, [(4, .int v1), (3, .int p2), (0, .ref p0), (2, .int p1)], [.int (lg_cmp v43 (-3000000003 : Int64))])) zq_302 zo_302 (by with_unfolding_all rfl) ?_
                                  replace hf := zf_ite hf
                                  obtain ⟨hc, hf⟩ | ⟨hc, hf⟩ := hf
                                  · refine zv_brT (off := 36) (tt := 364) (r := []) zq_302 zo_302 (zl_ne.mpr hc) rfl rfl rfl ?_
                                    refine zv_p (k := 1) (f' := (365, [(4, .int v1), (3, .int p2), (0, .ref p0), (2, .int p1)], [.int (0 : Int32)])) zq_302 zo_302 (by with_unfolding_all rfl) ?_
                                    cases hf
                                    exact zv_rn zq_302 zo_302 rfl rfl
                                  · refine zv_brF (off := 36) (tt := 364) (r := []) zq_302 zo_302 (mt zl_ne.mp hc) rfl rfl rfl ?_
                                    refine zv_p (k := 5) (f' := (337, [(4, .int v1), (3, .int p2), (0, .ref p0), (2, .int p1)], [.long (1 : Int64), .int v1, .int (0 : Int32), .int (3 : Int32), .ref p0])) zq_302 zo_302 (by with_unfolding_all rfl) ?_
                                    replace hf := zf_b2e hf
                                    obtain ⟨v45, h46, hv, hf⟩ := hf
                                    refine zv_c zq_302 zo_302 rfl rfl rfl rfl rfl rfl (t_f_ColumnVaultLaw_asks _ _ _ _ _ _ _ _ hv) ?_
                                    refine zv_lng zq_302 zo_302 rfl rfl ?_
                                    refine zv_p (k := 1) (f' := (344, [(4, .int v1), (3, .int p2), (0, .ref p0), (2, .int p1)], [.int (lg_cmp v45 (-3000000001 : Int64))])) zq_302 zo_302 (by with_unfolding_all rfl) ?_
                                    replace hf := zf_ite hf
                                    obtain ⟨hc, hf⟩ | ⟨hc, hf⟩ := hf
                                    · refine zv_brT (off := 20) (tt := 364) (r := []) zq_302 zo_302 (zl_ne.mpr hc) rfl rfl rfl ?_
                                      refine zv_p (k := 1) (f' := (365, [(4, .int v1), (3, .int p2), (0, .ref p0), (2, .int p1)], [.int (0 : Int32)])) zq_302 zo_302 (by with_unfolding_all rfl) ?_
                                      cases hf
                                      exact zv_rn zq_302 zo_302 rfl rfl
                                    · refine zv_brF (off := 20) (tt := 364) (r := []) zq_302 zo_302 (mt zl_ne.mp hc) rfl rfl rfl ?_
                                      refine zv_p (k := 6) (f' := (354, [(4, .int v1), (3, .int p2), (0, .ref p0), (2, .int p1)], [.long (v1).toInt64, .int (0 : Int32), .int (0 : Int32), .int (4 : Int32), .ref p0])) zq_302 zo_302 (by with_unfolding_all rfl) ?_
                                      replace hf := zf_b2e hf
                                      obtain ⟨v47, h48, hv, hf⟩ := hf
                                      refine zv_c zq_302 zo_302 rfl rfl rfl rfl rfl rfl (t_f_ColumnVaultLaw_asks _ _ _ _ _ _ _ _ hv) ?_
                                      refine zv_lng zq_302 zo_302 rfl rfl ?_
                                      refine zv_p (k := 1) (f' := (361, [(4, .int v1), (3, .int p2), (0, .ref p0), (2, .int p1)], [.int (lg_cmp v47 (-3000000001 : Int64))])) zq_302 zo_302 (by with_unfolding_all rfl) ?_
                                      replace hf := zf_ite hf
                                      obtain ⟨hc, hf⟩ | ⟨hc, hf⟩ := hf
                                      · refine zv_brT (off := 5) (tt := 366) (r := []) zq_302 zo_302 (zl_eq.mpr hc) rfl rfl rfl ?_
                                        refine zv_p (k := 2) (f' := (369, [(5, .int (0 : Int32)), (4, .int v1), (3, .int p2), (0, .ref p0), (2, .int p1)], [])) zq_302 zo_302 (by with_unfolding_all rfl) ?_
                                        refine zv_pick (lv' := [(0, .ref p0), (2, .int p1), (4, .int v1), (5, .int (0 : Int32))]) [0, 2, 4, 5] rfl rfl ?_
                                        exact t_f_ColumnVaultLaw_areRefused_369 zF _ _ _ _ _ _ _ hf
                                      · refine zv_brF (off := 5) (tt := 366) (r := []) zq_302 zo_302 (mt zl_eq.mp hc) rfl rfl rfl ?_
                                        refine zv_p (k := 1) (f' := (365, [(4, .int v1), (3, .int p2), (0, .ref p0), (2, .int p1)], [.int (0 : Int32)])) zq_302 zo_302 (by with_unfolding_all rfl) ?_
                                        cases hf
                                        exact zv_rn zq_302 zo_302 rfl rfl
                              · refine zv_brF (off := 5) (tt := 305) (r := []) zq_302 zo_302 (mt zl_eq.mp hc) rfl rfl rfl ?_
                                refine zv_p (k := 1) (f' := (304, [(4, .int v1), (3, .int p2), (0, .ref p0), (2, .int p1)], [.int (0 : Int32)])) zq_302 zo_302 (by with_unfolding_all rfl) ?_
                                cases hf
                                exact zv_rn zq_302 zo_302 rfl rfl
set_option maxHeartbeats 1000000 in
def f_ColumnVaultLaw_areRefused (p0 : Nat) (p1 : Nat) (h : zx_H) : Option ((Int32 ⊕ Nat) × zx_H) :=
  zf_b (zf_is 12 p0 h) fun _ =>
  zf_b2 (f_ColumnVault_version p0 h) fun v1 h2 =>
  zf_b2 (f_ColumnVaultLaw_draw p1 (2 : Int32) h2) fun v3 h4 =>
  if ¬ v3 = 0 then
    zf_b2 (f_ColumnVaultLaw_draw p1 (3 : Int32) h4) fun v5 h6 =>
    f_ColumnVaultLaw_areRefused_30 p0 v1 ((-1 : Int32) - v5) h6
  else
    zf_b2 (f_ColumnVaultLaw_draw p1 (3 : Int32) h4) fun v7 h8 =>
    f_ColumnVaultLaw_areRefused_30 p0 v1 ((3 : Int32) + v7) h8
set_option maxHeartbeats 4000000 in
set_option maxRecDepth 400000 in
theorem t_f_ColumnVaultLaw_areRefused {sc : (Nat × (Nat → Int32)) × Bool} {d : Nat} (p0 : Nat) (p1 : Nat) (h : zx_H) (r : (Int32 ⊕ Nat)) (h' : zx_H) (hf : f_ColumnVaultLaw_areRefused p0 p1 h = some (r, h')) : zx_T sc (d + 125) 302 (0, [(0, .ref p0), (1, .ref p1)], []) h (zf_oIx r) h' := by
  unfold f_ColumnVaultLaw_areRefused at hf
  refine zv_p (k := 1) (f' := (1, [(0, .ref p0), (1, .ref p1)], [.ref p0])) zq_302 zo_302 (by with_unfolding_all rfl) ?_
  replace hf := zf_be hf
  obtain ⟨_, ho, hf⟩ := hf
  replace hf := zf_b2e hf
  obtain ⟨v1, h2, hv, hf⟩ := hf
  refine zv_c zq_302 zo_302 rfl rfl rfl rfl rfl (zv_cv rfl rfl rfl (zf_ise ho) rfl) (t_f_ColumnVault_version _ _ _ _ hv) ?_
  refine zv_p (k := 3) (f' := (7, [(2, .int v1), (0, .ref p0), (1, .ref p1)], [.int (2 : Int32), .ref p1])) zq_302 zo_302 (by with_unfolding_all rfl) ?_
  replace hf := zf_b2e hf
  obtain ⟨v3, h4, hv, hf⟩ := hf
  refine zv_c zq_302 zo_302 rfl rfl rfl rfl rfl rfl (t_f_ColumnVaultLaw_draw _ _ _ _ _ hv) ?_
  replace hf := zf_ite hf
  obtain ⟨hc, hf⟩ | ⟨hc, hf⟩ := hf
  · refine zv_brT (off := 13) (tt := 23) (r := []) zq_302 zo_302 hc rfl rfl rfl ?_
    refine zv_p (k := 3) (f' := (26, [(2, .int v1), (0, .ref p0), (1, .ref p1)], [.int (3 : Int32), .ref p1, .int (-1 : Int32)])) zq_302 zo_302 (by with_unfolding_all rfl) ?_
    replace hf := zf_b2e hf
    obtain ⟨v5, h6, hv, hf⟩ := hf
    refine zv_c zq_302 zo_302 rfl rfl rfl rfl rfl rfl (t_f_ColumnVaultLaw_draw _ _ _ _ _ hv) ?_
    refine zv_p (k := 1) (f' := (30, [(2, .int v1), (0, .ref p0), (1, .ref p1)], [.int ((-1 : Int32) - v5)])) zq_302 zo_302 (by with_unfolding_all rfl) ?_
    refine zv_pick (lv' := [(0, .ref p0), (2, .int v1)]) [0, 2] rfl rfl ?_
    exact t_f_ColumnVaultLaw_areRefused_30 _ _ _ _ _ _ hf
  · refine zv_brF (off := 13) (tt := 23) (r := []) zq_302 zo_302 hc rfl rfl rfl ?_
    refine zv_p (k := 3) (f' := (16, [(2, .int v1), (0, .ref p0), (1, .ref p1)], [.int (3 : Int32), .ref p1, .int (3 : Int32)])) zq_302 zo_302 (by with_unfolding_all rfl) ?_
    replace hf := zf_b2e hf
    obtain ⟨v7, h8, hv, hf⟩ := hf
    refine zv_c zq_302 zo_302 rfl rfl rfl rfl rfl rfl (t_f_ColumnVaultLaw_draw _ _ _ _ _ hv) ?_
    refine zv_p (k := 2) (f' := (30, [(2, .int v1), (0, .ref p0), (1, .ref p1)], [.int ((3 : Int32) + v7)])) zq_302 zo_302 (by with_unfolding_all rfl) ?_
    refine zv_pick (lv' := [(0, .ref p0), (2, .int v1)]) [0, 2] rfl rfl ?_
    exact t_f_ColumnVaultLaw_areRefused_30 _ _ _ _ _ _ hf
