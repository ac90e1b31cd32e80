set_option maxHeartbeats 1000000 in
def f_ColumnVaultLaw_isWrong_475 (p0 : Nat) (p1 : Int32) (p2 : Int32) (p3 : Nat) (p4 : Nat) (p5 : Nat) (p6 : Nat) (p7 : Int32) (h : zx_H) : Option ((Int32 ⊕ Nat) × zx_H) :=
  zf_b2 (zf_new 1 h) fun q1 h2 =>
  zf_b2 (f_StringBuilder_init q1 h2) fun _ h4 =>
  zf_b (zf_ldA p3 p7 h4) fun v5 =>
  zf_b (zf_is 1 q1 h4) fun _ =>
  zf_b2 (f_StringBuilder_appendq3 q1 v5 h4) fun v6 h7 =>
  zf_b (zf_ldA p4 p7 h7) fun v8 =>
  zf_b (zf_is 1 v6 h7) fun _ =>
  zf_b2 (f_StringBuilder_appendq3 v6 v8 h7) fun v9 h10 =>
  zf_b (zf_is 1 v9 h10) fun _ =>
  zf_b2 (f_StringBuilder_toString v9 h10) fun v11 h12 =>
  zf_b2 (f_ColumnVaultLaw_says p0 v11 h12) fun _ h14 =>
  zf_b (zf_is 12 p0 h14) fun _ =>
  zf_b3 (f_ColumnVault_errorKind p0 p1 h14) fun v15 h16 =>
  zf_b (zf_ldI p5 p7 h16) fun v18 =>
  if ¬ v15 = v18 then
    some (.inl (0 : Int32), h16)
  else
    zf_b (zf_is 12 p0 h16) fun _ =>
    zf_b3 (f_ColumnVault_errorPlace p0 p1 h16) fun v19 h20 =>
    zf_b (zf_ldI p6 p7 h20) fun v22 =>
    if ¬ v19 = v22 then
      some (.inl (0 : Int32), h20)
    else
      zf_b2 (f_ColumnVaultLaw_asks p0 (8 : Int32) p1 (0 : Int32) (0 : Int64) h20) fun v23 h24 =>
      if ¬ v23 = (-3000000004 : Int64) then
        some (.inl (0 : Int32), h24)
      else
        zf_b2 (f_ColumnVaultLaw_asks p0 (7 : Int32) p1 (0 : Int32) (0 : Int64) h24) fun v25 h26 =>
        if v25 = (-3000000004 : Int64) then
          if p2 = 0 then
            f_ColumnVaultLaw_isWrong_580 p0 p1 p0 (zx_lim + 1 + 682) h26
          else
            f_ColumnVaultLaw_isWrong_580 p0 p1 p0 (zx_lim + 1 + 680) h26
        else
          some (.inl (0 : Int32), h26)
set_option maxHeartbeats 4000000 in
set_option maxRecDepth 400000 in
theorem t_f_ColumnVaultLaw_isWrong_475 {sc : (Nat × (Nat → Int32)) × Bool} {d : Nat} (p0 : Nat) (p1 : Int32) (p2 : Int32) (p3 : Nat) (p4 : Nat) (p5 : Nat) (p6 : Nat) (p7 : Int32) (h : zx_H) (r : (Int32 ⊕ Nat)) (h' : zx_H) (hf : f_ColumnVaultLaw_isWrong_475 p0 p1 p2 p3 p4 p5 p6 p7 h = some (r, h')) : zx_T sc (d + 126) 283 (475, [(0, .ref p0), (2, .int p1), (4, .int p2), (6, .ref p3), (7, .ref p4), (8, .ref p5), (9, .ref p6), (10, .int p7)], []) h (zf_oIx r) h' := by
  unfold f_ColumnVaultLaw_isWrong_475 at hf
  refine zv_p (k := 1) (f' := (476, [(0, .ref p0), (2, .int p1), (4, .int p2), (6, .ref p3), (7, .ref p4), (8, .ref p5), (9, .ref p6), (10, .int p7)], [.ref p0])) zq_283 zo_283 (by with_unfolding_all rfl) ?_
  replace hf := zf_b2e hf
  obtain ⟨q1, h2, hv, hf⟩ := hf
  refine zv_new zq_283 zo_283 rfl rfl rfl hv ?_
  refine zv_p (k := 1) (f' := (480, [(0, .ref p0), (2, .int p1), (4, .int p2), (6, .ref p3), (7, .ref p4), (8, .ref p5), (9, .ref p6), (10, .int p7)], [.ref q1, .ref q1, .ref p0])) zq_283 zo_283 (by with_unfolding_all rfl) ?_
  replace hf := zf_b2e hf
  obtain ⟨v3, h4, hv, hf⟩ := hf
  refine zv_c zq_283 zo_283 rfl rfl rfl rfl rfl rfl (t_f_StringBuilder_init _ _ _ _ hv) ?_
  refine zv_p (k := 2) (f' := (487, [(0, .ref p0), (2, .int p1), (4, .int p2), (6, .ref p3), (7, .ref p4), (8, .ref p5), (9, .ref p6), (10, .int p7)], [.int p7, .ref p3, .ref q1, .ref p0])) zq_283 zo_283 (by with_unfolding_all rfl) ?_
  replace hf := zf_be hf
  obtain ⟨v5, hv, hf⟩ := hf
  refine zv_ldA zq_283 zo_283 rfl hv ?_
  replace hf := zf_be hf
  obtain ⟨_, ho, hf⟩ := hf
  replace hf := zf_b2e hf
  obtain ⟨v6, h7, hv, hf⟩ := hf
  refine zv_c zq_283 zo_283 rfl rfl rfl rfl rfl (zv_cv rfl rfl rfl (zf_ise ho) rfl) (t_f_StringBuilder_appendq3 _ _ _ _ _ hv) ?_
  refine zv_p (k := 2) (f' := (495, [(0, .ref p0), (2, .int p1), (4, .int p2), (6, .ref p3), (7, .ref p4), (8, .ref p5), (9, .ref p6), (10, .int p7)], [.int p7, .ref p4, .ref v6, .ref p0])) zq_283 zo_283 (by with_unfolding_all rfl) ?_
  replace hf := zf_be hf
  obtain ⟨v8, hv, hf⟩ := hf
  refine zv_ldA zq_283 zo_283 rfl hv ?_
  replace hf := zf_be hf
  obtain ⟨_, ho, hf⟩ := hf
  replace hf := zf_b2e hf
  obtain ⟨v9, h10, hv, hf⟩ := hf
  refine zv_c zq_283 zo_283 rfl rfl rfl rfl rfl (zv_cv rfl rfl rfl (zf_ise ho) rfl) (t_f_StringBuilder_appendq3 _ _ _ _ _ hv) ?_
  replace hf := zf_be hf
  obtain ⟨_, ho, hf⟩ := hf
  replace hf := zf_b2e hf
  obtain ⟨v11, h12, hv, hf⟩ := hf
  refine zv_c zq_283 zo_283 rfl rfl rfl rfl rfl (zv_cv rfl rfl rfl (zf_ise ho) rfl) (t_f_StringBuilder_toString _ _ _ _ hv) ?_
  replace hf := zf_b2e hf
  obtain ⟨v13, h14, hv, hf⟩ := hf
  refine zv_c zq_283 zo_283 rfl rfl rfl rfl rfl rfl (t_f_ColumnVaultLaw_says _ _ _ _ _ hv) ?_
  refine zv_p (k := 2) (f' := (507, [(0, .ref p0), (2, .int p1), (4, .int p2), (6, .ref p3), (7, .ref p4), (8, .ref p5), (9, .ref p6), (10, .int p7)], [.int p1, .ref p0])) zq_283 zo_283 (by with_unfolding_all rfl) ?_
  replace hf := zf_be hf
  obtain ⟨_, ho, hf⟩ := hf
  replace hf := zf_b3e hf
  obtain ⟨v15, h16, hv, hf⟩ | ⟨E17, h16, hv, hf⟩ := hf
  rotate_left
  · cases hf; exact zv_cx zq_283 zo_283 rfl rfl rfl rfl rfl (zv_cv rfl rfl rfl (zf_ise ho) rfl) (t_f_ColumnVault_errorKind _ _ _ _ _ hv) rfl
  refine zv_c zq_283 zo_283 rfl rfl rfl rfl rfl (zv_cv rfl rfl rfl (zf_ise ho) rfl) (t_f_ColumnVault_errorKind _ _ _ _ _ hv) ?_
  refine zv_p (k := 2) (f' := (514, [(0, .ref p0), (2, .int p1), (4, .int p2), (6, .ref p3), (7, .ref p4), (8, .ref p5), (9, .ref p6), (10, .int p7)], [.int p7, .ref p5, .int v15])) zq_283 zo_283 (by with_unfolding_all rfl) ?_
  replace hf := zf_be hf
  obtain ⟨v18, hv, hf⟩ := hf
  refine zv_ldI zq_283 zo_283 rfl hv ?_
  replace hf := zf_ite hf
  obtain ⟨hc, hf⟩ | ⟨hc, hf⟩ := hf
  · refine zv_brT (off := 48) (tt := 563) (r := []) zq_283 zo_283 hc rfl rfl rfl ?_
    refine zv_p (k := 1) (f' := (564, [(0, .ref p0), (2, .int p1), (4, .int p2), (6, .ref p3), (7, .ref p4), (8, .ref p5), (9, .ref p6), (10, .int p7)], [.int (0 : Int32)])) zq_283 zo_283 (by with_unfolding_all rfl) ?_
    cases hf
    exact zv_rn zq_283 zo_283 rfl rfl
  · refine zv_brF (off := 48) (tt := 563) (r := []) zq_283 zo_283 hc rfl rfl rfl ?_
    refine zv_p (k := 2) (f' := (520, [(0, .ref p0), (2, .int p1), (4, .int p2), (6, .ref p3), (7, .ref p4), (8, .ref p5), (9, .ref p6), (10, .int p7)], [.int p1, .ref p0])) zq_283 zo_283 (by with_unfolding_all rfl) ?_
    replace hf := zf_be hf
    obtain ⟨_, ho, hf⟩ := hf
    replace hf := zf_b3e hf
    obtain ⟨v19, h20, hv, hf⟩ | ⟨E21, h20, hv, hf⟩ := hf
    rotate_left
    · cases hf; exact zv_cx zq_283 zo_283 rfl rfl rfl rfl rfl (zv_cv rfl rfl rfl (zf_ise ho) rfl) (t_f_ColumnVault_errorPlace _ _ _ _ _ hv) rfl
    refine zv_c zq_283 zo_283 rfl rfl rfl rfl rfl (zv_cv rfl rfl rfl (zf_ise ho) rfl) (t_f_ColumnVault_errorPlace _ _ _ _ _ hv) ?_
    refine zv_p (k := 2) (f' := (527, [(0, .ref p0), (2, .int p1), (4, .int p2), (6, .ref p3), (7, .ref p4), (8, .ref p5), (9, .ref p6), (10, .int p7)], [.int p7, .ref p6, .int v19])) zq_283 zo_283 (by with_unfolding_all rfl) ?_
    replace hf := zf_be hf
    obtain ⟨v22, hv, hf⟩ := hf
    refine zv_ldI zq_283 zo_283 rfl hv ?_
    replace hf := zf_ite hf
    obtain ⟨hc, hf⟩ | ⟨hc, hf⟩ := hf
    · refine zv_brT (off := 35) (tt := 563) (r := []) zq_283 zo_283 hc rfl rfl rfl ?_
      refine zv_p (k := 1) (f' := (564, [(0, .ref p0), (2, .int p1), (4, .int p2), (6, .ref p3), (7, .ref p4), (8, .ref p5), (9, .ref p6), (10, .int p7)], [.int (0 : Int32)])) zq_283 zo_283 (by with_unfolding_all rfl) ?_
      cases hf
      exact zv_rn zq_283 zo_283 rfl rfl
    · refine zv_brF (off := 35) (tt := 563) (r := []) zq_283 zo_283 hc rfl rfl rfl ?_
      refine zv_p (k := 5) (f' := (537, [(0, .ref p0), (2, .int p1), (4, .int p2), (6, .ref p3), (7, .ref p4), (8, .ref p5), (9, .ref p6), (10, .int p7)], [.long (0 : Int64), .int (0 : Int32), .int p1, .int (8 : Int32), .ref p0])) zq_283 zo_283 (by with_unfolding_all rfl) ?_
      replace hf := zf_b2e hf
      obtain ⟨v23, h24, hv, hf⟩ := hf
      refine zv_c zq_283 zo_283 rfl rfl rfl rfl rfl rfl (t_f_ColumnVaultLaw_asks _ _ _ _ _ _ _ _ hv) ?_
      refine zv_lng zq_283 zo_283 rfl rfl ?_
      refine zv_p (k := 1) (f' := (544, [(0, .ref p0), (2, .int p1), (4, .int p2), (6, .ref p3), (7, .ref p4), (8, .ref p5), (9, .ref p6), (10, .int p7)], [.int (lg_cmp v23 (-3000000004 : Int64))])) zq_283 zo_283 (by with_unfolding_all rfl) ?_
      replace hf := zf_ite hf
      obtain ⟨hc, hf⟩ | ⟨hc, hf⟩ := hf
      · refine zv_brT (off := 19) (tt := 563) (r := []) zq_283 zo_283 (zl_ne.mpr hc) rfl rfl rfl ?_
        refine zv_p (k := 1) (f' := (564, [(0, .ref p0), (2, .int p1), (4, .int p2), (6, .ref p3), (7, .ref p4), (8, .ref p5), (9, .ref p6), (10, .int p7)], [.int (0 : Int32)])) zq_283 zo_283 (by with_unfolding_all rfl) ?_
        cases hf
        exact zv_rn zq_283 zo_283 rfl rfl
      · refine zv_brF (off := 19) (tt := 563) (r := []) zq_283 zo_283 (mt zl_ne.mp hc) rfl rfl rfl ?_
        refine zv_p (k := 5) (f' := (553, [(0, .ref p0), (2, .int p1), (4, .int p2), (6, .ref p3), (7, .ref p4), (8, .ref p5), (9, .ref p6), (10, .int p7)], [.long (0 : Int64), .int (0 : Int32), .int p1, .int (7 : Int32), .ref p0])) zq_283 zo_283 (by with_unfolding_all rfl) ?_
        replace hf := zf_b2e hf
        obtain ⟨v25, h26, hv, hf⟩ := hf
        refine zv_c zq_283 zo_283 rfl rfl rfl rfl rfl rfl (t_f_ColumnVaultLaw_asks _ _ _ _ _ _ _ _ hv) ?_
        refine zv_lng zq_283 zo_283 rfl rfl ?_
        refine zv_p (k := 1) (f' := (560, [(0, .ref p0), (2, .int p1), (4, .int p2), (6, .ref p3), (7, .ref p4), (8, .ref p5), (9, .ref p6), (10, .int p7)], [.int (lg_cmp v25 (-3000000004 : Int64))])) zq_283 zo_283 (by with_unfolding_all rfl) ?_
        replace hf := zf_ite hf
        obtain ⟨hc, hf⟩ | ⟨hc, hf⟩ := hf
        · refine zv_brT (off := 5) (tt := 565) (r := []) zq_283 zo_283 (zl_eq.mpr hc) rfl rfl rfl ?_
          refine zv_p (k := 2) (f' := (568, [(0, .ref p0), (2, .int p1), (4, .int p2), (6, .ref p3), (7, .ref p4), (8, .ref p5), (9, .ref p6), (10, .int p7)], [.int p2, .ref p0])) zq_283 zo_283 (by with_unfolding_all rfl) ?_
          replace hf := zf_ite hf
          obtain ⟨hc, hf⟩ | ⟨hc, hf⟩ := hf
          · refine zv_brT (off := 9) (tt := 577) (r := [.ref p0]) zq_283 zo_283 hc rfl rfl rfl ?_
            refine zv_strw zq_283 zo_283 rfl rfl ?_
            refine zv_pick (lv' := [(0, .ref p0), (2, .int p1)]) [0, 2] rfl rfl ?_
            exact t_f_ColumnVaultLaw_isWrong_580 _ _ _ _ _ _ _ hf
          · refine zv_brF (off := 9) (tt := 577) (r := [.ref p0]) zq_283 zo_283 hc rfl rfl rfl ?_
            refine zv_strw zq_283 zo_283 rfl rfl ?_
            refine zv_p (k := 1) (f' := (580, [(0, .ref p0), (2, .int p1), (4, .int p2), (6, .ref p3), (7, .ref p4), (8, .ref p5), (9, .ref p6), (10, .int p7)], [.ref (zx_lim + 1 + 680), .ref p0])) zq_283 zo_283 (by with_unfolding_all rfl) ?_
            refine zv_pick (lv' := [(0, .ref p0), (2, .int p1)]) [0, 2] rfl rfl ?_
            exact t_f_ColumnVaultLaw_isWrong_580 _ _ _ _ _ _ _ hf
        · refine zv_brF (off := 5) (tt := 565) (r := []) zq_283 zo_283 (mt zl_eq.mp hc) rfl rfl rfl ?_
          refine zv_p (k := 1) (f' := (564, [(0, .ref p0), (2, .int p1), (4, .int p2), (6, .ref p3), (7, .ref p4), (8, .ref p5), (9, .ref p6), (10, .int p7)], [.int (0 : Int32)])) zq_283 zo_283 (by with_unfolding_all rfl) ?_
          cases hf
          exact zv_rn zq_283 zo_283 rfl rfl
