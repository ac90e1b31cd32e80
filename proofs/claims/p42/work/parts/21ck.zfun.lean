set_option maxHeartbeats 1000000 in
def f_ColumnVaultLaw_areRefused_488 : Nat → Nat → zx_H → Option ((Int32 ⊕ Nat) × zx_H)
  | 0, _, _ => none
  | n + 1, p0, h =>
    zf_b (zf_is 12 p0 h) fun _ =>
    zf_b3 (f_ColumnVault_size p0 (0 : Int32) (0 : Int32) h) fun v1 h2 =>
    if (40 : Int32) ≤ v1 then
      zf_b (zf_is 12 p0 h2) fun _ =>
      zf_b2 (f_ColumnVault_version p0 h2) fun v4 h5 =>
      zf_b2 (f_ColumnVaultLaw_asks p0 (1 : Int32) (0 : Int32) (0 : Int32) (0 : Int64) h5) fun v6 h7 =>
      if ¬ v6 = (-3000000004 : Int64) then
        some (.inl (0 : Int32), h7)
      else
        zf_b2 (f_ColumnVaultLaw_asks p0 (2 : Int32) (0 : Int32) (0 : Int32) (1 : Int64) h7) fun v8 h9 =>
        if ¬ v8 = (-3000000004 : Int64) then
          some (.inl (0 : Int32), h9)
        else
          zf_b (zf_is 12 p0 h9) fun _ =>
          zf_b2 (f_ColumnVault_version p0 h9) fun v10 h11 =>
          if ¬ v10 = v4 then
            some (.inl (0 : Int32), h11)
          else
            zf_b (zf_is 12 p0 h11) fun _ =>
            zf_b3 (f_ColumnVault_size p0 (0 : Int32) (0 : Int32) h11) fun v12 h13 =>
            if ¬ v12 = (40 : Int32) then
              some (.inl (0 : Int32), h13)
            else
              some (.inl (1 : Int32), h13)
    else
      zf_b (zf_is 12 p0 h2) fun _ =>
      zf_b3 (f_ColumnVault_addRow p0 (0 : Int32) h2) fun v15 h16 =>
      if 0 ≤ v15 then
        (f_ColumnVaultLaw_areRefused_488 n) p0 h16
      else
        some (.inl (0 : Int32), h16)
set_option maxHeartbeats 4000000 in
set_option maxRecDepth 400000 in
theorem t_f_ColumnVaultLaw_areRefused_488 {sc : (Nat × (Nat → Int32)) × Bool} {d : Nat} : ∀ (n : Nat) (p0 : Nat) (h : zx_H) (r : (Int32 ⊕ Nat)) (h' : zx_H), f_ColumnVaultLaw_areRefused_488 n p0 h = some (r, h') → zx_T sc (d + 125) 302 (488, [(0, .ref p0)], []) h (zf_oIx r) h' := by
  intro n
  induction n with
  | zero => intro p0 h r h' hf; cases hf
  | succ n ih =>
    intro p0 h r h' hf
    unfold f_ColumnVaultLaw_areRefused_488 at hf
    refine zv_p (k := 3) (f' := (491, [(0, .ref p0)], [.int (0 : Int32), .int (0 : Int32), .ref p0])) zq_302 zo_302 (by with_unfolding_all rfl) ?_
    replace hf := zf_be hf
    obtain ⟨_, ho, hf⟩ := hf
    replace hf := zf_b3e hf
    obtain ⟨v1, h2, hv, hf⟩ | ⟨E3, h2, hv, hf⟩ := hf
    rotate_left
    · cases hf; exact zv_cx zq_302 zo_302 rfl rfl rfl rfl rfl (zv_cv rfl rfl rfl (zf_ise ho) rfl) (t_f_ColumnVault_size _ _ _ _ _ _ hv) rfl
    refine zv_c zq_302 zo_302 rfl rfl rfl rfl rfl (zv_cv rfl rfl rfl (zf_ise ho) rfl) (t_f_ColumnVault_size _ _ _ _ _ _ hv) ?_
    refine zv_p (k := 1) (f' := (496, [(0, .ref p0)], [.int (40 : Int32), .int v1])) zq_302 zo_302 (by with_unfolding_all rfl) ?_
    replace hf := zf_ite hf
    obtain ⟨hc, hf⟩ | ⟨hc, hf⟩ := hf
    · refine zv_brT (off := 13) (tt := 509) (r := []) zq_302 zo_302 hc rfl rfl rfl ?_
      refine zv_p (k := 1) (f' := (510, [(0, .ref p0)], [.ref p0])) zq_302 zo_302 (by with_unfolding_all rfl) ?_
      replace hf := zf_be hf
      obtain ⟨_, ho, hf⟩ := hf
      replace hf := zf_b2e hf
      obtain ⟨v4, h5, hv, hf⟩ := hf
      refine zv_c zq_302 zo_302 rfl rfl rfl rfl rfl (zv_cv rfl rfl rfl (zf_ise ho) rfl) (t_f_ColumnVault_version _ _ _ _ hv) ?_
      refine zv_p (k := 6) (f' := (519, [(2, .int v4), (0, .ref p0)], [.long (0 : Int64), .int (0 : Int32), .int (0 : Int32), .int (1 : Int32), .ref p0])) zq_302 zo_302 (by with_unfolding_all rfl) ?_
      replace hf := zf_b2e hf
      obtain ⟨v6, h7, hv, hf⟩ := hf
      refine zv_c zq_302 zo_302 rfl rfl rfl rfl rfl rfl (t_f_ColumnVaultLaw_asks _ _ _ _ _ _ _ _ hv) ?_
      refine zv_lng zq_302 zo_302 rfl rfl ?_
      refine zv_p (k := 1) (f' := (526, [(2, .int v4), (0, .ref p0)], [.int (lg_cmp v6 (-3000000004 : Int64))])) zq_302 zo_302 (by with_unfolding_all rfl) ?_
      replace hf := zf_ite hf
      obtain ⟨hc, hf⟩ | ⟨hc, hf⟩ := hf
      · refine zv_brT (off := 41) (tt := 567) (r := []) zq_302 zo_302 (zl_ne.mpr hc) rfl rfl rfl ?_
        refine zv_p (k := 1) (f' := (568, [(2, .int v4), (0, .ref p0)], [.int (0 : Int32)])) zq_302 zo_302 (by with_unfolding_all rfl) ?_
        cases hf
        exact zv_rn zq_302 zo_302 rfl rfl
      · refine zv_brF (off := 41) (tt := 567) (r := []) zq_302 zo_302 (mt zl_ne.mp hc) rfl rfl rfl ?_
        refine zv_p (k := 5) (f' := (534, [(2, .int v4), (0, .ref p0)], [.long (1 : Int64), .int (0 : Int32), .int (0 : Int32), .int (2 : Int32), .ref p0])) zq_302 zo_302 (by with_unfolding_all rfl) ?_
        replace hf := zf_b2e hf
        obtain ⟨v8, h9, hv, hf⟩ := hf
        refine zv_c zq_302 zo_302 rfl rfl rfl rfl rfl rfl (t_f_ColumnVaultLaw_asks _ _ _ _ _ _ _ _ hv) ?_
        refine zv_lng zq_302 zo_302 rfl rfl ?_
        refine zv_p (k := 1) (f' := (541, [(2, .int v4), (0, .ref p0)], [.int (lg_cmp v8 (-3000000004 : Int64))])) zq_302 zo_302 (by with_unfolding_all rfl) ?_
        replace hf := zf_ite hf
        obtain ⟨hc, hf⟩ | ⟨hc, hf⟩ := hf
        · refine zv_brT (off := 26) (tt := 567) (r := []) zq_302 zo_302 (zl_ne.mpr hc) rfl rfl rfl ?_
          refine zv_p (k := 1) (f' := (568, [(2, .int v4), (0, .ref p0)], [.int (0 : Int32)])) zq_302 zo_302 (by with_unfolding_all rfl) ?_
          cases hf
          exact zv_rn zq_302 zo_302 rfl rfl
        · refine zv_brF (off := 26) (tt := 567) (r := []) zq_302 zo_302 (mt zl_ne.mp hc) rfl rfl rfl ?_
          refine zv_p (k := 1) (f' := (545, [(2, .int v4), (0, .ref p0)], [.ref p0])) zq_302 zo_302 (by with_unfolding_all rfl) ?_
          replace hf := zf_be hf
          obtain ⟨_, ho, hf⟩ := hf
          replace hf := zf_b2e hf
          obtain ⟨v10, h11, hv, hf⟩ := hf
          refine zv_c zq_302 zo_302 rfl rfl rfl rfl rfl (zv_cv rfl rfl rfl (zf_ise ho) rfl) (t_f_ColumnVault_version _ _ _ _ hv) ?_
          refine zv_p (k := 1) (f' := (549, [(2, .int v4), (0, .ref p0)], [.int v4, .int v10])) zq_302 zo_302 (by with_unfolding_all rfl) ?_
          replace hf := zf_ite hf
          obtain ⟨hc, hf⟩ | ⟨hc, hf⟩ := hf
          · refine zv_brT (off := 18) (tt := 567) (r := []) zq_302 zo_302 hc rfl rfl rfl ?_
            refine zv_p (k := 1) (f' := (568, [(2, .int v4), (0, .ref p0)], [.int (0 : Int32)])) zq_302 zo_302 (by with_unfolding_all rfl) ?_
            cases hf
            exact zv_rn zq_302 zo_302 rfl rfl
          · refine zv_brF (off := 18) (tt := 567) (r := []) zq_302 zo_302 hc rfl rfl rfl ?_
            refine zv_p (k := 3) (f' := (555, [(2, .int v4), (0, .ref p0)], [.int (0 : Int32), .int (0 : Int32), .ref p0])) zq_302 zo_302 (by with_unfolding_all rfl) ?_
            replace hf := zf_be hf
            obtain ⟨_, ho, hf⟩ := hf
            replace hf := zf_b3e hf
            obtain ⟨v12, h13, hv, hf⟩ | ⟨E14, h13, hv, hf⟩ := hf
            rotate_left
            · cases hf; exact zv_cx zq_302 zo_302 rfl rfl rfl rfl rfl (zv_cv rfl rfl rfl (zf_ise ho) rfl) (t_f_ColumnVault_size _ _ _ _ _ _ hv) rfl
            refine zv_c zq_302 zo_302 rfl rfl rfl rfl rfl (zv_cv rfl rfl rfl (zf_ise ho) rfl) (t_f_ColumnVault_size _ _ _ _ _ _ hv) ?_
            refine zv_p (k := 1) (f' := (560, [(2, .int v4), (0, .ref p0)], [.int (40 : Int32), .int v12])) zq_302 zo_302 (by with_unfolding_all rfl) ?_
            replace hf := zf_ite hf
            obtain ⟨hc, hf⟩ | ⟨hc, hf⟩ := hf
            · refine zv_brT (off := 7) (tt := 567) (r := []) zq_302 zo_302 hc rfl rfl rfl ?_
              refine zv_p (k := 1) (f' := (568, [(2, .int v4), (0, .ref p0)], [.int (0 : Int32)])) zq_302 zo_302 (by with_unfolding_all rfl) ?_
              cases hf
              exact zv_rn zq_302 zo_302 rfl rfl
            · refine zv_brF (off := 7) (tt := 567) (r := []) zq_302 zo_302 hc rfl rfl rfl ?_
              refine zv_p (k := 2) (f' := (568, [(2, .int v4), (0, .ref p0)], [.int (1 : Int32)])) zq_302 zo_302 (by with_unfolding_all rfl) ?_
              cases hf
              exact zv_rn zq_302 zo_302 rfl rfl
    · refine zv_brF (off := 13) (tt := 509) (r := []) zq_302 zo_302 hc rfl rfl rfl ?_
      refine zv_p (k := 2) (f' := (501, [(0, .ref p0)], [.int (0 : Int32), .ref p0])) zq_302 zo_302 (by with_unfolding_all rfl) ?_
      replace hf := zf_be hf
      obtain ⟨_, ho, hf⟩ := hf
      replace hf := zf_b3e hf
      obtain ⟨v15, h16, hv, hf⟩ | ⟨E17, h16, hv, hf⟩ := hf
      rotate_left
      · cases hf; exact zv_cx zq_302 zo_302 rfl rfl rfl rfl rfl (zv_cv rfl rfl rfl (zf_ise ho) rfl) (t_f_ColumnVault_addRow _ _ _ _ _ hv) rfl
      refine zv_c zq_302 zo_302 rfl rfl rfl rfl rfl (zv_cv rfl rfl rfl (zf_ise ho) rfl) (t_f_ColumnVault_addRow _ _ _ _ _ hv) ?_
      replace hf := zf_ite hf
      obtain ⟨hc, hf⟩ | ⟨hc, hf⟩ := hf
      · refine zv_brT (off := -16) (tt := 488) (r := []) zq_302 zo_302 hc rfl rfl rfl ?_
        refine zv_pick (lv' := [(0, .ref p0)]) [0] rfl rfl ?_
        exact ih _ _ _ _ hf
      · refine zv_brF (off := -16) (tt := 488) (r := []) zq_302 zo_302 hc rfl rfl rfl ?_
        refine zv_p (k := 1) (f' := (508, [(0, .ref p0)], [.int (0 : Int32)])) zq_302 zo_302 (by with_unfolding_all rfl) ?_
        cases hf
        exact zv_rn zq_302 zo_302 rfl rfl
set_option maxHeartbeats 1000000 in
def f_ColumnVaultLaw_areRefused_369 : Nat → Nat → Int32 → Int32 → Int32 → zx_H → Option ((Int32 ⊕ Nat) × zx_H)
  | 0, _, _, _, _, _ => none
  | n + 1, p0, p1, p2, p3, h =>
    if p2 ≤ p3 then
      zf_b (zf_is 12 p0 h) fun _ =>
      zf_b2 (f_ColumnVault_version p0 h) fun v1 h2 =>
      if v1 = p1 then
        f_ColumnVaultLaw_areRefused_488 zF p0 h2
      else
        some (.inl (0 : Int32), h2)
    else
      zf_b (zf_is 12 p0 h) fun _ =>
      zf_b3 (f_ColumnVault_size p0 (0 : Int32) (0 : Int32) h) fun v3 h4 =>
      if v3 ≤ 0 then
        zf_b (zf_is 12 p0 h4) fun _ =>
        zf_b2 (f_ColumnVault_version p0 h4) fun v6 h7 =>
        if v6 = p1 then
          f_ColumnVaultLaw_areRefused_488 zF p0 h7
        else
          some (.inl (0 : Int32), h7)
      else
        zf_b (zf_is 12 p0 h4) fun _ =>
        zf_b3 (f_ColumnVault_kind p0 (0 : Int32) p3 h4) fun v8 h9 =>
        if ¬ v8 = (1 : Int32) then
          (f_ColumnVaultLaw_areRefused_369 n) p0 p1 p2 (p3 + (1 : Int32)) h9
        else
          zf_b2 (f_ColumnVaultLaw_asks p0 (3 : Int32) (0 : Int32) p3 (5 : Int64) h9) fun v11 h12 =>
          if ¬ v11 = (-3000000003 : Int64) then
            some (.inl (0 : Int32), h12)
          else
            zf_b2 (f_ColumnVaultLaw_asks p0 (3 : Int32) (0 : Int32) p3 (24832 : Int64) h12) fun v13 h14 =>
            if ¬ v13 = (-3000000003 : Int64) then
              some (.inl (0 : Int32), h14)
            else
              zf_b2 (f_ColumnVaultLaw_code (zx_lim + 1 + 674) h14) fun v15 h16 =>
              zf_b2 (f_ColumnVaultLaw_asks p0 (3 : Int32) (0 : Int32) p3 v15 h16) fun v17 h18 =>
              if ¬ v17 = (-3000000003 : Int64) then
                some (.inl (0 : Int32), h18)
              else
                zf_b2 (f_ColumnVaultLaw_asks p0 (20 : Int32) (0 : Int32) p3 (0 : Int64) h18) fun v19 h20 =>
                if v19 = (-3000000003 : Int64) then
                  (f_ColumnVaultLaw_areRefused_369 n) p0 p1 p2 (p3 + (1 : Int32)) h20
                else
                  some (.inl (0 : Int32), h20)
set_option maxHeartbeats 4000000 in
set_option maxRecDepth 400000 in
theorem t_f_ColumnVaultLaw_areRefused_369 {sc : (Nat × (Nat → Int32)) × Bool} {d : Nat} : ∀ (n : Nat) (p0 : Nat) (p1 : Int32) (p2 : Int32) (p3 : Int32) (h : zx_H) (r : (Int32 ⊕ Nat)) (h' : zx_H), f_ColumnVaultLaw_areRefused_369 n p0 p1 p2 p3 h = some (r, h') → zx_T sc (d + 125) 302 (369, [(0, .ref p0), (2, .int p1), (4, .int p2), (5, .int p3)], []) h (zf_oIx r) h' := by
  intro n
  induction n with
  | zero => intro p0 p1 p2 p3 h r h' hf; cases hf
  | succ n ih =>
    intro p0 p1 p2 p3 h r h' hf
    unfold f_ColumnVaultLaw_areRefused_369 at hf
    refine zv_p (k := 2) (f' := (373, [(0, .ref p0), (2, .int p1), (4, .int p2), (5, .int p3)], [.int p2, .int p3])) zq_302 zo_302 (by with_unfolding_all rfl) ?_
    replace hf := zf_ite hf
    obtain ⟨hc, hf⟩ | ⟨hc, hf⟩ := hf
    · refine zv_brT (off := 105) (tt := 478) (r := []) zq_302 zo_302 hc rfl rfl rfl ?_
      refine zv_p (k := 1) (f' := (479, [(0, .ref p0), (2, .int p1), (4, .int p2), (5, .int p3)], [.ref p0])) zq_302 zo_302 (by with_unfolding_all rfl) ?_
      replace hf := zf_be hf
      obtain ⟨_, ho, hf⟩ := hf
      replace hf := zf_b2e hf
      obtain ⟨v1, h2, hv, hf⟩ := hf
      refine zv_c zq_302 zo_302 rfl rfl rfl rfl rfl (zv_cv rfl rfl rfl (zf_ise ho) rfl) (t_f_ColumnVault_version _ _ _ _ hv) ?_
      refine zv_p (k := 1) (f' := (483, [(0, .ref p0), (2, .int p1), (4, .int p2), (5, .int p3)], [.int p1, .int v1])) zq_302 zo_302 (by with_unfolding_all rfl) ?_
      replace hf := zf_ite hf
      obtain ⟨hc, hf⟩ | ⟨hc, hf⟩ := hf
      · refine zv_brT (off := 5) (tt := 488) (r := []) zq_302 zo_302 hc rfl rfl rfl ?_
        refine zv_pick (lv' := [(0, .ref p0)]) [0] rfl rfl ?_
        exact t_f_ColumnVaultLaw_areRefused_488 zF _ _ _ _ hf
      · refine zv_brF (off := 5) (tt := 488) (r := []) zq_302 zo_302 hc rfl rfl rfl ?_
        refine zv_p (k := 1) (f' := (487, [(0, .ref p0), (2, .int p1), (4, .int p2), (5, .int p3)], [.int (0 : Int32)])) zq_302 zo_302 (by with_unfolding_all rfl) ?_
        cases hf
        exact zv_rn zq_302 zo_302 rfl rfl
    · refine zv_brF (off := 105) (tt := 478) (r := []) zq_302 zo_302 hc rfl rfl rfl ?_
      refine zv_p (k := 3) (f' := (379, [(0, .ref p0), (2, .int p1), (4, .int p2), (5, .int p3)], [.int (0 : Int32), .int (0 : Int32), .ref p0])) zq_302 zo_302 (by with_unfolding_all rfl) ?_
      replace hf := zf_be hf
      obtain ⟨_, ho, hf⟩ := hf
      replace hf := zf_b3e hf
      obtain ⟨v3, h4, hv, hf⟩ | ⟨E5, h4, hv, hf⟩ := hf
      rotate_left
      · cases hf; exact zv_cx zq_302 zo_302 rfl rfl rfl rfl rfl (zv_cv rfl rfl rfl (zf_ise ho) rfl) (t_f_ColumnVault_size _ _ _ _ _ _ hv) rfl
      refine zv_c zq_302 zo_302 rfl rfl rfl rfl rfl (zv_cv rfl rfl rfl (zf_ise ho) rfl) (t_f_ColumnVault_size _ _ _ _ _ _ hv) ?_
      replace hf := zf_ite hf
      obtain ⟨hc, hf⟩ | ⟨hc, hf⟩ := hf
      · refine zv_brT (off := 96) (tt := 478) (r := []) zq_302 zo_302 hc rfl rfl rfl ?_
        refine zv_p (k := 1) (f' := (479, [(0, .ref p0), (2, .int p1), (4, .int p2), (5, .int p3)], [.ref p0])) zq_302 zo_302 (by with_unfolding_all rfl) ?_
        replace hf := zf_be hf
        obtain ⟨_, ho, hf⟩ := hf
        replace hf := zf_b2e hf
        obtain ⟨v6, h7, hv, hf⟩ := hf
        refine zv_c zq_302 zo_302 rfl rfl rfl rfl rfl (zv_cv rfl rfl rfl (zf_ise ho) rfl) (t_f_ColumnVault_version _ _ _ _ hv) ?_
        refine zv_p (k := 1) (f' := (483, [(0, .ref p0), (2, .int p1), (4, .int p2), (5, .int p3)], [.int p1, .int v6])) zq_302 zo_302 (by with_unfolding_all rfl) ?_
        replace hf := zf_ite hf
        obtain ⟨hc, hf⟩ | ⟨hc, hf⟩ := hf
        · refine zv_brT (off := 5) (tt := 488) (r := []) zq_302 zo_302 hc rfl rfl rfl ?_
          refine zv_pick (lv' := [(0, .ref p0)]) [0] rfl rfl ?_
          exact t_f_ColumnVaultLaw_areRefused_488 zF _ _ _ _ hf
        · refine zv_brF (off := 5) (tt := 488) (r := []) zq_302 zo_302 hc rfl rfl rfl ?_
          refine zv_p (k := 1) (f' := (487, [(0, .ref p0), (2, .int p1), (4, .int p2), (5, .int p3)], [.int (0 : Int32)])) zq_302 zo_302 (by with_unfolding_all rfl) ?_
          cases hf
          exact zv_rn zq_302 zo_302 rfl rfl
      · refine zv_brF (off := 96) (tt := 478) (r := []) zq_302 zo_302 hc rfl rfl rfl ?_
        refine zv_p (k := 3) (f' := (389, [(0, .ref p0), (2, .int p1), (4, .int p2), (5, .int p3)], [.int p3, .int (0 : Int32), .ref p0])) zq_302 zo_302 (by with_unfolding_all rfl) ?_
        replace hf := zf_be hf
        obtain ⟨_, ho, hf⟩ := hf
        replace hf := zf_b3e hf
        obtain ⟨v8, h9, hv, hf⟩ | ⟨E10, h9, hv, hf⟩ := hf
        rotate_left
        · cases hf; exact zv_cx zq_302 zo_302 rfl rfl rfl rfl rfl (zv_cv rfl rfl rfl (zf_ise ho) rfl) (t_f_ColumnVault_kind _ _ _ _ _ _ hv) rfl
        refine zv_c zq_302 zo_302 rfl rfl rfl rfl rfl (zv_cv rfl rfl rfl (zf_ise ho) rfl) (t_f_ColumnVault_kind _ _ _ _ _ _ hv) ?_
        refine zv_p (k := 1) (f' := (393, [(0, .ref p0), (2, .int p1), (4, .int p2), (5, .int p3)], [.int (1 : Int32), .int v8])) zq_302 zo_302 (by with_unfolding_all rfl) ?_
        replace hf := zf_ite hf
        obtain ⟨hc, hf⟩ | ⟨hc, hf⟩ := hf
        · refine zv_brT (off := 79) (tt := 472) (r := []) zq_302 zo_302 hc rfl rfl rfl ?_
          refine zv_p (k := 2) (f' := (369, [(5, .int (p3 + (1 : Int32))), (0, .ref p0), (2, .int p1), (4, .int p2)], [])) zq_302 zo_302 (by with_unfolding_all rfl) ?_
          refine zv_pick (lv' := [(0, .ref p0), (2, .int p1), (4, .int p2), (5, .int (p3 + (1 : Int32)))]) [0, 2, 4, 5] rfl rfl ?_
          exact ih _ _ _ _ _ _ _ hf
        · refine zv_brF (off := 79) (tt := 472) (r := []) zq_302 zo_302 hc rfl rfl rfl ?_
          refine zv_p (k := 4) (f' := (401, [(0, .ref p0), (2, .int p1), (4, .int p2), (5, .int p3)], [.int p3, .int (0 : Int32), .int (3 : Int32), .ref p0])) zq_302 zo_302 (by with_unfolding_all rfl) ?_
          refine zv_lng zq_302 zo_302 rfl rfl ?_
          replace hf := zf_b2e hf
          obtain ⟨v11, h12, hv, hf⟩ := hf
          refine zv_c zq_302 zo_302 rfl rfl rfl rfl rfl rfl (t_f_ColumnVaultLaw_asks _ _ _ _ _ _ _ _ hv) ?_
          refine zv_lng zq_302 zo_302 rfl rfl ?_
          refine zv_p (k := 1) (f' := (411, [(0, .ref p0), (2, .int p1), (4, .int p2), (5, .int p3)], [.int (lg_cmp v11 (-3000000003 : Int64))])) zq_302 zo_302 (by with_unfolding_all rfl) ?_
          replace hf := zf_ite hf
          obtain ⟨hc, hf⟩ | ⟨hc, hf⟩ := hf
          · refine zv_brT (off := 59) (tt := 470) (r := []) zq_302 zo_302 (zl_ne.mpr hc) rfl rfl rfl ?_
            refine zv_p (k := 1) (f' := (471, [(0, .ref p0), (2, .int p1), (4, .int p2), (5, .int p3)], [.int (0 : Int32)])) zq_302 zo_302 (by with_unfolding_all rfl) ?_
            cases hf
            exact zv_rn zq_302 zo_302 rfl rfl
          · refine zv_brF (off := 59) (tt := 470) (r := []) zq_302 zo_302 (mt zl_ne.mp hc) rfl rfl rfl ?_
            refine zv_p (k := 4) (f' := (419, [(0, .ref p0), (2, .int p1), (4, .int p2), (5, .int p3)], [.int p3, .int (0 : Int32), .int (3 : Int32), .ref p0])) zq_302 zo_302 (by with_unfolding_all rfl) ?_
            refine zv_lng zq_302 zo_302 rfl rfl ?_
            replace hf := zf_b2e hf
            obtain ⟨v13, h14, hv, hf⟩ := hf
            refine zv_c zq_302 zo_302 rfl rfl rfl rfl rfl rfl (t_f_ColumnVaultLaw_asks _ _ _ _ _ _ _ _ hv) ?_
            refine zv_lng zq_302 zo_302 rfl rfl ?_
            refine zv_p (k := 1) (f' := (429, [(0, .ref p0), (2, .int p1), (4, .int p2), (5, .int p3)], [.int (lg_cmp v13 (-3000000003 : Int64))])) zq_302 zo_302 (by with_unfolding_all rfl) ?_
            replace hf := zf_ite hf
            obtain ⟨hc, hf⟩ | ⟨hc, hf⟩ := hf
            · refine zv_brT (off := 41) (tt := 470) (r := []) zq_302 zo_302 (zl_ne.mpr hc) rfl rfl rfl ?_
              refine zv_p (k := 1) (f' := (471, [(0, .ref p0), (2, .int p1), (4, .int p2), (5, .int p3)], [.int (0 : Int32)])) zq_302 zo_302 (by with_unfolding_all rfl) ?_
              cases hf
              exact zv_rn zq_302 zo_302 rfl rfl
            · refine zv_brF (off := 41) (tt := 470) (r := []) zq_302 zo_302 (mt zl_ne.mp hc) rfl rfl rfl ?_
              refine zv_p (k := 4) (f' := (437, [(0, .ref p0), (2, .int p1), (4, .int p2), (5, .int p3)], [.int p3, .int (0 : Int32), .int (3 : Int32), .ref p0])) zq_302 zo_302 (by with_unfolding_all rfl) ?_
              refine zv_strw zq_302 zo_302 rfl rfl ?_
              replace hf := zf_b2e hf
              obtain ⟨v15, h16, hv, hf⟩ := hf
              refine zv_c zq_302 zo_302 rfl rfl rfl rfl rfl rfl (t_f_ColumnVaultLaw_code _ _ _ _ hv) ?_
              replace hf := zf_b2e hf
              obtain ⟨v17, h18, hv, hf⟩ := hf
              refine zv_c zq_302 zo_302 rfl rfl rfl rfl rfl rfl (t_f_ColumnVaultLaw_asks _ _ _ _ _ _ _ _ hv) ?_
              refine zv_lng zq_302 zo_302 rfl rfl ?_
              refine zv_p (k := 1) (f' := (450, [(0, .ref p0), (2, .int p1), (4, .int p2), (5, .int p3)], [.int (lg_cmp v17 (-3000000003 : Int64))])) zq_302 zo_302 (by with_unfolding_all rfl) ?_
              replace hf := zf_ite hf
              obtain ⟨hc, hf⟩ | ⟨hc, hf⟩ := hf
              · refine zv_brT (off := 20) (tt := 470) (r := []) zq_302 zo_302 (zl_ne.mpr hc) rfl rfl rfl ?_
                refine zv_p (k := 1) (f' := (471, [(0, .ref p0), (2, .int p1), (4, .int p2), (5, .int p3)], [.int (0 : Int32)])) zq_302 zo_302 (by with_unfolding_all rfl) ?_
                cases hf
                exact zv_rn zq_302 zo_302 rfl rfl
              · refine zv_brF (off := 20) (tt := 470) (r := []) zq_302 zo_302 (mt zl_ne.mp hc) rfl rfl rfl ?_
                refine zv_p (k := 5) (f' := (460, [(0, .ref p0), (2, .int p1), (4, .int p2), (5, .int p3)], [.long (0 : Int64), .int p3, .int (0 : Int32), .int (20 : Int32), .ref p0])) zq_302 zo_302 (by with_unfolding_all rfl) ?_
                replace hf := zf_b2e hf
                obtain ⟨v19, h20, hv, hf⟩ := hf
                refine zv_c zq_302 zo_302 rfl rfl rfl rfl rfl rfl (t_f_ColumnVaultLaw_asks _ _ _ _ _ _ _ _ hv) ?_
                refine zv_lng zq_302 zo_302 rfl rfl ?_
                refine zv_p (k := 1) (f' := (467, [(0, .ref p0), (2, .int p1), (4, .int p2), (5, .int p3)], [.int (lg_cmp v19 (-3000000003 : Int64))])) zq_302 zo_302 (by with_unfolding_all rfl) ?_
                replace hf := zf_ite hf
                obtain ⟨hc, hf⟩ | ⟨hc, hf⟩ := hf
                · refine zv_brT (off := 5) (tt := 472) (r := []) zq_302 zo_302 (zl_eq.mpr hc) rfl rfl rfl ?_
                  refine zv_p (k := 2) (f' := (369, [(5, .int (p3 + (1 : Int32))), (0, .ref p0), (2, .int p1), (4, .int p2)], [])) zq_302 zo_302 (by with_unfolding_all rfl) ?_
                  refine zv_pick (lv' := [(0, .ref p0), (2, .int p1), (4, .int p2), (5, .int (p3 + (1 : Int32)))]) [0, 2, 4, 5] rfl rfl ?_
                  exact ih _ _ _ _ _ _ _ hf
                · refine zv_brF (off := 5) (tt := 472) (r := []) zq_302 zo_302 (mt zl_eq.mp hc) rfl rfl rfl ?_
                  refine zv_p (k := 1) (f' := (471, [(0, .ref p0), (2, .int p1), (4, .int p2), (5, .int p3)], [.int (0 : Int32)])) zq_302 zo_302 (by with_unfolding_all rfl) ?_
                  cases hf
                  exact zv_rn zq_302 zo_302 rfl rfl
