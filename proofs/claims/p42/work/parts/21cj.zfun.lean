set_option maxHeartbeats 1000000 in
def f_ColumnVaultLaw_isBack_44 : Nat → Nat → Nat → Int32 → Nat → Int32 → Int32 → zx_H → Option ((Int32 ⊕ Nat) × zx_H)
  | 0, _, _, _, _, _, _, _ => none
  | n + 1, p0, p1, p2, p3, p4, p5, h =>
    if p4 ≤ p5 then
      zf_b2 (zf_newa .long 2 (3 : Int32) h) fun q1 h2 =>
      zf_b3 (f_ColumnVaultLaw_digest p0 (0 : Int32) h2) fun v3 h4 =>
      zf_b (zf_stJ q1 (0 : Int32) v3 h4) fun h6 =>
      zf_b3 (f_ColumnVaultLaw_digest p0 (1 : Int32) h6) fun v7 h8 =>
      zf_b (zf_stJ q1 (1 : Int32) v7 h8) fun h10 =>
      zf_b3 (f_ColumnVaultLaw_digest p0 (2 : Int32) h10) fun v11 h12 =>
      zf_b (zf_stJ q1 (2 : Int32) v11 h12) fun h14 =>
      if p4 ≤ (11 : Int32) then
        zf_b (zf_is 12 p0 h14) fun _ =>
        zf_b3 (f_ColumnVault_back p0 p2 h14) fun v15 h16 =>
        if ¬ v15 = ((p2 + p4) + (1 : Int32)) then
          some (.inl (0 : Int32), h16)
        else
          zf_b (zf_is 12 p0 h16) fun _ =>
          zf_b2 (f_ColumnVault_version p0 h16) fun v18 h19 =>
          if v18 = ((p2 + p4) + (1 : Int32)) then
            f_ColumnVaultLaw_isBack_284 zF p0 p2 p3 p4 q1 (0 : Int32) h19
          else
            some (.inl (0 : Int32), h19)
      else
        zf_b2 (f_ColumnVaultLaw_asks p0 (5 : Int32) p2 (0 : Int32) (0 : Int64) h14) fun v20 h21 =>
        if ¬ v20 = (-3000000001 : Int64) then
          some (.inl (0 : Int32), h21)
        else
          zf_b (zf_is 12 p0 h21) fun _ =>
          zf_b2 (f_ColumnVault_version p0 h21) fun v22 h23 =>
          zf_b2 (f_ColumnVaultLaw_asks p0 (5 : Int32) (v22 + (1 : Int32)) (0 : Int32) (0 : Int64) h23) fun v24 h25 =>
          if ¬ v24 = (-3000000001 : Int64) then
            some (.inl (0 : Int32), h25)
          else
            some (.inl (1 : Int32), h25)
    else
      zf_b2 (f_ColumnVaultLaw_draw p1 (3 : Int32) h) fun v26 h27 =>
      zf_b (zf_is 12 p0 h27) fun _ =>
      zf_b3 (f_ColumnVault_size p0 v26 (0 : Int32) h27) fun v28 h29 =>
      zf_b2 (f_ColumnVaultLaw_draw p1 (3 : Int32) h29) fun v31 h32 =>
      if v31 = 0 then
        zf_b (zf_is 12 p0 h32) fun _ =>
        zf_b3 (f_ColumnVault_turnChoice p0 v26 h32) fun v33 h34 =>
        f_ColumnVaultLaw_isBack_147 (f_ColumnVaultLaw_isBack_44 n) p0 p1 p2 p3 p4 p5 v33 h34
      else
        if ¬ v28 = 0 then
          zf_b2 (f_ColumnVaultLaw_draw p1 (2 : Int32) h32) fun v36 h37 =>
          if ¬ v36 = 0 then
            zf_b2 (f_ColumnVaultLaw_draw p1 v28 h37) fun v38 h39 =>
            zf_b2 (f_ColumnVaultLaw_draw p1 (9 : Int32) h39) fun v40 h41 =>
            zf_b (zf_is 12 p0 h41) fun _ =>
            zf_b3 (f_ColumnVault_set p0 v26 v38 (0 : Int32) ((v40).toInt64) h41) fun v42 h43 =>
            if v42 = 0 then
              f_ColumnVaultLaw_isBack_147 (f_ColumnVaultLaw_isBack_44 n) p0 p1 p2 p3 p4 p5 (0 : Int32) h43
            else
              f_ColumnVaultLaw_isBack_147 (f_ColumnVaultLaw_isBack_44 n) p0 p1 p2 p3 p4 p5 (1 : Int32) h43
          else
            zf_b (zf_is 12 p0 h37) fun _ =>
            zf_b3 (f_ColumnVault_size p0 v26 (1 : Int32) h37) fun v45 h46 =>
            zf_b2 (f_ColumnVaultLaw_draw p1 v45 h46) fun v48 h49 =>
            zf_b (zf_is 12 p0 h49) fun _ =>
            zf_b3 (f_ColumnVault_sort p0 v26 v48 (1 : Int32) (0 : Int32) h49) fun v50 h51 =>
            f_ColumnVaultLaw_isBack_147 (f_ColumnVaultLaw_isBack_44 n) p0 p1 p2 p3 p4 p5 v50 h51
        else
          zf_b (zf_is 12 p0 h32) fun _ =>
          zf_b3 (f_ColumnVault_turnChoice p0 v26 h32) fun v53 h54 =>
          f_ColumnVaultLaw_isBack_147 (f_ColumnVaultLaw_isBack_44 n) p0 p1 p2 p3 p4 p5 v53 h54
set_option maxHeartbeats 4000000 in
set_option maxRecDepth 400000 in
theorem t_f_ColumnVaultLaw_isBack_44 {sc : (Nat × (Nat → Int32)) × Bool} {d : Nat} : ∀ (n : Nat) (p0 : Nat) (p1 : Nat) (p2 : Int32) (p3 : Nat) (p4 : Int32) (p5 : Int32) (h : zx_H) (r : (Int32 ⊕ Nat)) (h' : zx_H), f_ColumnVaultLaw_isBack_44 n p0 p1 p2 p3 p4 p5 h = some (r, h') → zx_T sc (d + 125) 300 (44, [(0, .ref p0), (1, .ref p1), (2, .int p2), (3, .ref p3), (4, .int p4), (5, .int p5)], []) h (zf_oIx r) h' := by
  intro n
  induction n with
  | zero => intro p0 p1 p2 p3 p4 p5 h r h' hf; cases hf
  | succ n ih =>
    intro p0 p1 p2 p3 p4 p5 h r h' hf
    unfold f_ColumnVaultLaw_isBack_44 at hf
    refine zv_p (k := 2) (f' := (48, [(0, .ref p0), (1, .ref p1), (2, .int p2), (3, .ref p3), (4, .int p4), (5, .int p5)], [.int p4, .int p5])) zq_300 zo_300 (by with_unfolding_all rfl) ?_
    replace hf := zf_ite hf
    obtain ⟨hc, hf⟩ | ⟨hc, hf⟩ := hf
    · refine zv_brT (off := 127) (tt := 175) (r := []) zq_300 zo_300 hc rfl rfl rfl ?_
      refine zv_p (k := 1) (f' := (176, [(0, .ref p0), (1, .ref p1), (2, .int p2), (3, .ref p3), (4, .int p4), (5, .int p5)], [.int (3 : Int32)])) zq_300 zo_300 (by with_unfolding_all rfl) ?_
      replace hf := zf_b2e hf
      obtain ⟨q1, h2, hv, hf⟩ := hf
      refine zv_newa zq_300 zo_300 rfl rfl hv ?_
      refine zv_p (k := 4) (f' := (182, [(0, .ref p0), (1, .ref p1), (2, .int p2), (3, .ref p3), (4, .int p4), (5, .int p5)], [.int (0 : Int32), .ref p0, .int (0 : Int32), .ref q1, .ref q1])) zq_300 zo_300 (by with_unfolding_all rfl) ?_
      replace hf := zf_b3e hf
      obtain ⟨v3, h4, hv, hf⟩ | ⟨E5, h4, hv, hf⟩ := hf
      rotate_left
      · cases hf; exact zv_cx zq_300 zo_300 rfl rfl rfl rfl rfl rfl (t_f_ColumnVaultLaw_digest _ _ _ _ _ hv) rfl
      refine zv_c zq_300 zo_300 rfl rfl rfl rfl rfl rfl (t_f_ColumnVaultLaw_digest _ _ _ _ _ hv) ?_
      replace hf := zf_be hf
      obtain ⟨h6, hv, hf⟩ := hf
      refine zv_stJ zq_300 zo_300 rfl hv ?_
      refine zv_p (k := 4) (f' := (190, [(0, .ref p0), (1, .ref p1), (2, .int p2), (3, .ref p3), (4, .int p4), (5, .int p5)], [.int (1 : Int32), .ref p0, .int (1 : Int32), .ref q1, .ref q1])) zq_300 zo_300 (by with_unfolding_all rfl) ?_
      replace hf := zf_b3e hf
      obtain ⟨v7, h8, hv, hf⟩ | ⟨E9, h8, hv, hf⟩ := hf
      rotate_left
      · cases hf; exact zv_cx zq_300 zo_300 rfl rfl rfl rfl rfl rfl (t_f_ColumnVaultLaw_digest _ _ _ _ _ hv) rfl
      refine zv_c zq_300 zo_300 rfl rfl rfl rfl rfl rfl (t_f_ColumnVaultLaw_digest _ _ _ _ _ hv) ?_
      replace hf := zf_be hf
      obtain ⟨h10, hv, hf⟩ := hf
      refine zv_stJ zq_300 zo_300 rfl hv ?_
      refine zv_p (k := 4) (f' := (198, [(0, .ref p0), (1, .ref p1), (2, .int p2), (3, .ref p3), (4, .int p4), (5, .int p5)], [.int (2 : Int32), .ref p0, .int (2 : Int32), .ref q1, .ref q1])) zq_300 zo_300 (by with_unfolding_all rfl) ?_
      replace hf := zf_b3e hf
      obtain ⟨v11, h12, hv, hf⟩ | ⟨E13, h12, hv, hf⟩ := hf
      rotate_left
      · cases hf; exact zv_cx zq_300 zo_300 rfl rfl rfl rfl rfl rfl (t_f_ColumnVaultLaw_digest _ _ _ _ _ hv) rfl
      refine zv_c zq_300 zo_300 rfl rfl rfl rfl rfl rfl (t_f_ColumnVaultLaw_digest _ _ _ _ _ hv) ?_
      replace hf := zf_be hf
      obtain ⟨h14, hv, hf⟩ := hf
      refine zv_stJ zq_300 zo_300 rfl hv ?_
      refine zv_p (k := 3) (f' := (208, [(5, .ref q1), (0, .ref p0), (1, .ref p1), (2, .int p2), (3, .ref p3), (4, .int p4)], [.int (11 : Int32), .int p4])) zq_300 zo_300 (by with_unfolding_all rfl) ?_
      replace hf := zf_ite hf
      obtain ⟨hc, hf⟩ | ⟨hc, hf⟩ := hf
      · refine zv_brT (off := 44) (tt := 252) (r := []) zq_300 zo_300 hc rfl rfl rfl ?_
        refine zv_p (k := 2) (f' := (254, [(5, .ref q1), (0, .ref p0), (1, .ref p1), (2, .int p2), (3, .ref p3), (4, .int p4)], [.int p2, .ref p0])) zq_300 zo_300 (by with_unfolding_all rfl) ?_
        replace hf := zf_be hf
        obtain ⟨_, ho, hf⟩ := hf
        replace hf := zf_b3e hf
        obtain ⟨v15, h16, hv, hf⟩ | ⟨E17, h16, hv, hf⟩ := hf
        rotate_left
        · cases hf; exact zv_cx zq_300 zo_300 rfl rfl rfl rfl rfl (zv_cv rfl rfl rfl (zf_ise ho) rfl) (t_f_ColumnVault_back _ _ _ _ _ hv) rfl
        refine zv_c zq_300 zo_300 rfl rfl rfl rfl rfl (zv_cv rfl rfl rfl (zf_ise ho) rfl) (t_f_ColumnVault_back _ _ _ _ _ hv) ?_
        refine zv_p (k := 5) (f' := (263, [(5, .ref q1), (0, .ref p0), (1, .ref p1), (2, .int p2), (3, .ref p3), (4, .int p4)], [.int ((p2 + p4) + (1 : Int32)), .int v15])) zq_300 zo_300 (by with_unfolding_all rfl) ?_
        replace hf := zf_ite hf
        obtain ⟨hc, hf⟩ | ⟨hc, hf⟩ := hf
        · refine zv_brT (off := 16) (tt := 279) (r := []) zq_300 zo_300 hc rfl rfl rfl ?_
          refine zv_p (k := 1) (f' := (280, [(5, .ref q1), (0, .ref p0), (1, .ref p1), (2, .int p2), (3, .ref p3), (4, .int p4)], [.int (0 : Int32)])) zq_300 zo_300 (by with_unfolding_all rfl) ?_
          cases hf
          exact zv_rn zq_300 zo_300 rfl rfl
        · refine zv_brF (off := 16) (tt := 279) (r := []) zq_300 zo_300 hc rfl rfl rfl ?_
          refine zv_p (k := 1) (f' := (267, [(5, .ref q1), (0, .ref p0), (1, .ref p1), (2, .int p2), (3, .ref p3), (4, .int p4)], [.ref p0])) zq_300 zo_300 (by with_unfolding_all rfl) ?_
          replace hf := zf_be hf
          obtain ⟨_, ho, hf⟩ := hf
          replace hf := zf_b2e hf
          obtain ⟨v18, h19, hv, hf⟩ := hf
          refine zv_c zq_300 zo_300 rfl rfl rfl rfl rfl (zv_cv rfl rfl rfl (zf_ise ho) rfl) (t_f_ColumnVault_version _ _ _ _ hv) ?_
          refine zv_p (k := 5) (f' := (276, [(5, .ref q1), (0, .ref p0), (1, .ref p1), (2, .int p2), (3, .ref p3), (4, .int p4)], [.int ((p2 + p4) + (1 : Int32)), .int v18])) zq_300 zo_300 (by with_unfolding_all rfl) ?_
          replace hf := zf_ite hf
          obtain ⟨hc, hf⟩ | ⟨hc, hf⟩ := hf
          · refine zv_brT (off := 5) (tt := 281) (r := []) zq_300 zo_300 hc rfl rfl rfl ?_
            refine zv_p (k := 2) (f' := (284, [(6, .int (0 : Int32)), (5, .ref q1), (0, .ref p0), (1, .ref p1), (2, .int p2), (3, .ref p3), (4, .int p4)], [])) zq_300 zo_300 (by with_unfolding_all rfl) ?_
            refine zv_pick (lv' := [(0, .ref p0), (2, .int p2), (3, .ref p3), (4, .int p4), (5, .ref q1), (6, .int (0 : Int32))]) [0, 2, 3, 4, 5, 6] rfl rfl ?_
            exact t_f_ColumnVaultLaw_isBack_284 zF _ _ _ _ _ _ _ _ _ hf
          · refine zv_brF (off := 5) (tt := 281) (r := []) zq_300 zo_300 hc rfl rfl rfl ?_
            refine zv_p (k := 1) (f' := (280, [(5, .ref q1), (0, .ref p0), (1, .ref p1), (2, .int p2), (3, .ref p3), (4, .int p4)], [.int (0 : Int32)])) zq_300 zo_300 (by with_unfolding_all rfl) ?_
            cases hf
            exact zv_rn zq_300 zo_300 rfl rfl
      · refine zv_brF (off := 44) (tt := 252) (r := []) zq_300 zo_300 hc rfl rfl rfl ?_
        refine zv_p (k := 5) (f' := (216, [(5, .ref q1), (0, .ref p0), (1, .ref p1), (2, .int p2), (3, .ref p3), (4, .int p4)], [.long (0 : Int64), .int (0 : Int32), .int p2, .int (5 : Int32), .ref p0])) zq_300 zo_300 (by with_unfolding_all rfl) ?_
        replace hf := zf_b2e hf
        obtain ⟨v20, h21, hv, hf⟩ := hf
        refine zv_c zq_300 zo_300 rfl rfl rfl rfl rfl rfl (t_f_ColumnVaultLaw_asks _ _ _ _ _ _ _ _ hv) ?_
        refine zv_lng zq_300 zo_300 rfl rfl ?_
        refine zv_p (k := 1) (f' := (223, [(5, .ref q1), (0, .ref p0), (1, .ref p1), (2, .int p2), (3, .ref p3), (4, .int p4)], [.int (lg_cmp v20 (-3000000001 : Int64))])) zq_300 zo_300 (by with_unfolding_all rfl) ?_
        replace hf := zf_ite hf
        obtain ⟨hc, hf⟩ | ⟨hc, hf⟩ := hf
        · refine zv_brT (off := 27) (tt := 250) (r := []) zq_300 zo_300 (zl_ne.mpr hc) rfl rfl rfl ?_
          refine zv_p (k := 1) (f' := (251, [(5, .ref q1), (0, .ref p0), (1, .ref p1), (2, .int p2), (3, .ref p3), (4, .int p4)], [.int (0 : Int32)])) zq_300 zo_300 (by with_unfolding_all rfl) ?_
          cases hf
          exact zv_rn zq_300 zo_300 rfl rfl
        · refine zv_brF (off := 27) (tt := 250) (r := []) zq_300 zo_300 (mt zl_ne.mp hc) rfl rfl rfl ?_
          refine zv_p (k := 3) (f' := (229, [(5, .ref q1), (0, .ref p0), (1, .ref p1), (2, .int p2), (3, .ref p3), (4, .int p4)], [.ref p0, .int (5 : Int32), .ref p0])) zq_300 zo_300 (by with_unfolding_all rfl) ?_
          replace hf := zf_be hf
          obtain ⟨_, ho, hf⟩ := hf
          replace hf := zf_b2e hf
          obtain ⟨v22, h23, hv, hf⟩ := hf
          refine zv_c zq_300 zo_300 rfl rfl rfl rfl rfl (zv_cv rfl rfl rfl (zf_ise ho) rfl) (t_f_ColumnVault_version _ _ _ _ hv) ?_
          refine zv_p (k := 4) (f' := (236, [(5, .ref q1), (0, .ref p0), (1, .ref p1), (2, .int p2), (3, .ref p3), (4, .int p4)], [.long (0 : Int64), .int (0 : Int32), .int (v22 + (1 : Int32)), .int (5 : Int32), .ref p0])) zq_300 zo_300 (by with_unfolding_all rfl) ?_
          replace hf := zf_b2e hf
          obtain ⟨v24, h25, hv, hf⟩ := hf
          refine zv_c zq_300 zo_300 rfl rfl rfl rfl rfl rfl (t_f_ColumnVaultLaw_asks _ _ _ _ _ _ _ _ hv) ?_
          refine zv_lng zq_300 zo_300 rfl rfl ?_
          refine zv_p (k := 1) (f' := (243, [(5, .ref q1), (0, .ref p0), (1, .ref p1), (2, .int p2), (3, .ref p3), (4, .int p4)], [.int (lg_cmp v24 (-3000000001 : Int64))])) zq_300 zo_300 (by with_unfolding_all rfl) ?_
          replace hf := zf_ite hf
          obtain ⟨hc, hf⟩ | ⟨hc, hf⟩ := hf
          · refine zv_brT (off := 7) (tt := 250) (r := []) zq_300 zo_300 (zl_ne.mpr hc) rfl rfl rfl ?_
            refine zv_p (k := 1) (f' := (251, [(5, .ref q1), (0, .ref p0), (1, .ref p1), (2, .int p2), (3, .ref p3), (4, .int p4)], [.int (0 : Int32)])) zq_300 zo_300 (by with_unfolding_all rfl) ?_
            cases hf
            exact zv_rn zq_300 zo_300 rfl rfl
          · refine zv_brF (off := 7) (tt := 250) (r := []) zq_300 zo_300 (mt zl_ne.mp hc) rfl rfl rfl ?_
            refine zv_p (k := 2) (f' := (251, [(5, .ref q1), (0, .ref p0), (1, .ref p1), (2, .int p2), (3, .ref p3), (4, .int p4)], [.int (1 : Int32)])) zq_300 zo_300 (by with_unfolding_all rfl) ?_
            cases hf
            exact zv_rn zq_300 zo_300 rfl rfl
    · refine zv_brF (off := 127) (tt := 175) (r := []) zq_300 zo_300 hc rfl rfl rfl ?_
      refine zv_p (k := 2) (f' := (53, [(0, .ref p0), (1, .ref p1), (2, .int p2), (3, .ref p3), (4, .int p4), (5, .int p5)], [.int (3 : Int32), .ref p1])) zq_300 zo_300 (by with_unfolding_all rfl) ?_
      replace hf := zf_b2e hf
      obtain ⟨v26, h27, hv, hf⟩ := hf
      refine zv_c zq_300 zo_300 rfl rfl rfl rfl rfl rfl (t_f_ColumnVaultLaw_draw _ _ _ _ _ hv) ?_
      refine zv_p (k := 4) (f' := (62, [(6, .int v26), (0, .ref p0), (1, .ref p1), (2, .int p2), (3, .ref p3), (4, .int p4), (5, .int p5)], [.int (0 : Int32), .int v26, .ref p0])) zq_300 zo_300 (by with_unfolding_all rfl) ?_
      replace hf := zf_be hf
      obtain ⟨_, ho, hf⟩ := hf
      replace hf := zf_b3e hf
      obtain ⟨v28, h29, hv, hf⟩ | ⟨E30, h29, hv, hf⟩ := hf
      rotate_left
      · cases hf; exact zv_cx zq_300 zo_300 rfl rfl rfl rfl rfl (zv_cv rfl rfl rfl (zf_ise ho) rfl) (t_f_ColumnVault_size _ _ _ _ _ _ hv) rfl
      refine zv_c zq_300 zo_300 rfl rfl rfl rfl rfl (zv_cv rfl rfl rfl (zf_ise ho) rfl) (t_f_ColumnVault_size _ _ _ _ _ _ hv) ?_
      refine zv_p (k := 3) (f' := (69, [(7, .int v28), (6, .int v26), (0, .ref p0), (1, .ref p1), (2, .int p2), (3, .ref p3), (4, .int p4), (5, .int p5)], [.int (3 : Int32), .ref p1])) zq_300 zo_300 (by with_unfolding_all rfl) ?_
      replace hf := zf_b2e hf
      obtain ⟨v31, h32, hv, hf⟩ := hf
      refine zv_c zq_300 zo_300 rfl rfl rfl rfl rfl rfl (t_f_ColumnVaultLaw_draw _ _ _ _ _ hv) ?_
      replace hf := zf_ite hf
      obtain ⟨hc, hf⟩ | ⟨hc, hf⟩ := hf
      · refine zv_brT (off := 8) (tt := 80) (r := []) zq_300 zo_300 hc rfl rfl rfl ?_
        refine zv_p (k := 2) (f' := (83, [(7, .int v28), (6, .int v26), (0, .ref p0), (1, .ref p1), (2, .int p2), (3, .ref p3), (4, .int p4), (5, .int p5)], [.int v26, .ref p0])) zq_300 zo_300 (by with_unfolding_all rfl) ?_
        replace hf := zf_be hf
        obtain ⟨_, ho, hf⟩ := hf
        replace hf := zf_b3e hf
        obtain ⟨v33, h34, hv, hf⟩ | ⟨E35, h34, hv, hf⟩ := hf
        rotate_left
        · cases hf; exact zv_cx zq_300 zo_300 rfl rfl rfl rfl rfl (zv_cv rfl rfl rfl (zf_ise ho) rfl) (t_f_ColumnVault_turnChoice _ _ _ _ _ hv) rfl
        refine zv_c zq_300 zo_300 rfl rfl rfl rfl rfl (zv_cv rfl rfl rfl (zf_ise ho) rfl) (t_f_ColumnVault_turnChoice _ _ _ _ _ hv) ?_
        refine zv_p (k := 1) (f' := (147, [(7, .int v28), (6, .int v26), (0, .ref p0), (1, .ref p1), (2, .int p2), (3, .ref p3), (4, .int p4), (5, .int p5)], [.int v33])) zq_300 zo_300 (by with_unfolding_all rfl) ?_
        refine zv_pick (lv' := [(0, .ref p0), (1, .ref p1), (2, .int p2), (3, .ref p3), (4, .int p4), (5, .int p5)]) [0, 1, 2, 3, 4, 5] rfl rfl ?_
        exact t_f_ColumnVaultLaw_isBack_147 ih _ _ _ _ _ _ _ _ _ _ hf
      · refine zv_brF (off := 8) (tt := 80) (r := []) zq_300 zo_300 hc rfl rfl rfl ?_
        refine zv_p (k := 1) (f' := (77, [(7, .int v28), (6, .int v26), (0, .ref p0), (1, .ref p1), (2, .int p2), (3, .ref p3), (4, .int p4), (5, .int p5)], [.int v28])) zq_300 zo_300 (by with_unfolding_all rfl) ?_
        replace hf := zf_ite hf
        obtain ⟨hc, hf⟩ | ⟨hc, hf⟩ := hf
        · refine zv_brT (off := 12) (tt := 89) (r := []) zq_300 zo_300 hc rfl rfl rfl ?_
          refine zv_p (k := 2) (f' := (91, [(7, .int v28), (6, .int v26), (0, .ref p0), (1, .ref p1), (2, .int p2), (3, .ref p3), (4, .int p4), (5, .int p5)], [.int (2 : Int32), .ref p1])) zq_300 zo_300 (by with_unfolding_all rfl) ?_
          replace hf := zf_b2e hf
          obtain ⟨v36, h37, hv, hf⟩ := hf
          refine zv_c zq_300 zo_300 rfl rfl rfl rfl rfl rfl (t_f_ColumnVaultLaw_draw _ _ _ _ _ hv) ?_
          replace hf := zf_ite hf
          obtain ⟨hc, hf⟩ | ⟨hc, hf⟩ := hf
          · refine zv_brT (off := 25) (tt := 119) (r := []) zq_300 zo_300 hc rfl rfl rfl ?_
            refine zv_p (k := 4) (f' := (125, [(7, .int v28), (6, .int v26), (0, .ref p0), (1, .ref p1), (2, .int p2), (3, .ref p3), (4, .int p4), (5, .int p5)], [.int v28, .ref p1, .int v26, .ref p0])) zq_300 zo_300 (by with_unfolding_all rfl) ?_
            replace hf := zf_b2e hf
            obtain ⟨v38, h39, hv, hf⟩ := hf
            refine zv_c zq_300 zo_300 rfl rfl rfl rfl rfl rfl (t_f_ColumnVaultLaw_draw _ _ _ _ _ hv) ?_
            refine zv_p (k := 3) (f' := (132, [(7, .int v28), (6, .int v26), (0, .ref p0), (1, .ref p1), (2, .int p2), (3, .ref p3), (4, .int p4), (5, .int p5)], [.int (9 : Int32), .ref p1, .int (0 : Int32), .int v38, .int v26, .ref p0])) zq_300 zo_300 (by with_unfolding_all rfl) ?_
            replace hf := zf_b2e hf
            obtain ⟨v40, h41, hv, hf⟩ := hf
            refine zv_c zq_300 zo_300 rfl rfl rfl rfl rfl rfl (t_f_ColumnVaultLaw_draw _ _ _ _ _ hv) ?_
            refine zv_p (k := 1) (f' := (136, [(7, .int v28), (6, .int v26), (0, .ref p0), (1, .ref p1), (2, .int p2), (3, .ref p3), (4, .int p4), (5, .int p5)], [.long (v40).toInt64, .int (0 : Int32), .int v38, .int v26, .ref p0])) zq_300 zo_300 (by with_unfolding_all rfl) ?_
            replace hf := zf_be hf
            obtain ⟨_, ho, hf⟩ := hf
            replace hf := zf_b3e hf
            obtain ⟨v42, h43, hv, hf⟩ | ⟨E44, h43, hv, hf⟩ := hf
            rotate_left
            · cases hf; exact zv_cx zq_300 zo_300 rfl rfl rfl rfl rfl (zv_cv rfl rfl rfl (zf_ise ho) rfl) (t_f_ColumnVault_set _ _ _ _ _ _ _ _ hv) rfl
            refine zv_c zq_300 zo_300 rfl rfl rfl rfl rfl (zv_cv rfl rfl rfl (zf_ise ho) rfl) (t_f_ColumnVault_set _ _ _ _ _ _ _ _ hv) ?_
            replace hf := zf_ite hf
            obtain ⟨hc, hf⟩ | ⟨hc, hf⟩ := hf
            · refine zv_brT (off := 7) (tt := 146) (r := []) zq_300 zo_300 hc rfl rfl rfl ?_
              refine zv_p (k := 1) (f' := (147, [(7, .int v28), (6, .int v26), (0, .ref p0), (1, .ref p1), (2, .int p2), (3, .ref p3), (4, .int p4), (5, .int p5)], [.int (0 : Int32)])) zq_300 zo_300 (by with_unfolding_all rfl) ?_
              refine zv_pick (lv' := [(0, .ref p0), (1, .ref p1), (2, .int p2), (3, .ref p3), (4, .int p4), (5, .int p5)]) [0, 1, 2, 3, 4, 5] rfl rfl ?_
              exact t_f_ColumnVaultLaw_isBack_147 ih _ _ _ _ _ _ _ _ _ _ hf
            · refine zv_brF (off := 7) (tt := 146) (r := []) zq_300 zo_300 hc rfl rfl rfl ?_
              refine zv_p (k := 2) (f' := (147, [(7, .int v28), (6, .int v26), (0, .ref p0), (1, .ref p1), (2, .int p2), (3, .ref p3), (4, .int p4), (5, .int p5)], [.int (1 : Int32)])) zq_300 zo_300 (by with_unfolding_all rfl) ?_
              refine zv_pick (lv' := [(0, .ref p0), (1, .ref p1), (2, .int p2), (3, .ref p3), (4, .int p4), (5, .int p5)]) [0, 1, 2, 3, 4, 5] rfl rfl ?_
              exact t_f_ColumnVaultLaw_isBack_147 ih _ _ _ _ _ _ _ _ _ _ hf
          · refine zv_brF (off := 25) (tt := 119) (r := []) zq_300 zo_300 hc rfl rfl rfl ?_
            refine zv_p (k := 6) (f' := (105, [(7, .int v28), (6, .int v26), (0, .ref p0), (1, .ref p1), (2, .int p2), (3, .ref p3), (4, .int p4), (5, .int p5)], [.int (1 : Int32), .int v26, .ref p0, .ref p1, .int v26, .ref p0])) zq_300 zo_300 (by with_unfolding_all rfl) ?_
            replace hf := zf_be hf
            obtain ⟨_, ho, hf⟩ := hf
            replace hf := zf_b3e hf
            obtain ⟨v45, h46, hv, hf⟩ | ⟨E47, h46, hv, hf⟩ := hf
            rotate_left
            · cases hf; exact zv_cx zq_300 zo_300 rfl rfl rfl rfl rfl (zv_cv rfl rfl rfl (zf_ise ho) rfl) (t_f_ColumnVault_size _ _ _ _ _ _ hv) rfl
            refine zv_c zq_300 zo_300 rfl rfl rfl rfl rfl (zv_cv rfl rfl rfl (zf_ise ho) rfl) (t_f_ColumnVault_size _ _ _ _ _ _ hv) ?_
            replace hf := zf_b2e hf
            obtain ⟨v48, h49, hv, hf⟩ := hf
            refine zv_c zq_300 zo_300 rfl rfl rfl rfl rfl rfl (t_f_ColumnVaultLaw_draw _ _ _ _ _ hv) ?_
            refine zv_p (k := 2) (f' := (113, [(7, .int v28), (6, .int v26), (0, .ref p0), (1, .ref p1), (2, .int p2), (3, .ref p3), (4, .int p4), (5, .int p5)], [.int (0 : Int32), .int (1 : Int32), .int v48, .int v26, .ref p0])) zq_300 zo_300 (by with_unfolding_all rfl) ?_
            replace hf := zf_be hf
            obtain ⟨_, ho, hf⟩ := hf
            replace hf := zf_b3e hf
            obtain ⟨v50, h51, hv, hf⟩ | ⟨E52, h51, hv, hf⟩ := hf
            rotate_left
            · cases hf; exact zv_cx zq_300 zo_300 rfl rfl rfl rfl rfl (zv_cv rfl rfl rfl (zf_ise ho) rfl) (t_f_ColumnVault_sort _ _ _ _ _ _ _ _ hv) rfl
            refine zv_c zq_300 zo_300 rfl rfl rfl rfl rfl (zv_cv rfl rfl rfl (zf_ise ho) rfl) (t_f_ColumnVault_sort _ _ _ _ _ _ _ _ hv) ?_
            refine zv_p (k := 1) (f' := (147, [(7, .int v28), (6, .int v26), (0, .ref p0), (1, .ref p1), (2, .int p2), (3, .ref p3), (4, .int p4), (5, .int p5)], [.int v50])) zq_300 zo_300 (by with_unfolding_all rfl) ?_
            refine zv_pick (lv' := [(0, .ref p0), (1, .ref p1), (2, .int p2), (3, .ref p3), (4, .int p4), (5, .int p5)]) [0, 1, 2, 3, 4, 5] rfl rfl ?_
            exact t_f_ColumnVaultLaw_isBack_147 ih _ _ _ _ _ _ _ _ _ _ hf
        · refine zv_brF (off := 12) (tt := 89) (r := []) zq_300 zo_300 hc rfl rfl rfl ?_
          refine zv_p (k := 2) (f' := (83, [(7, .int v28), (6, .int v26), (0, .ref p0), (1, .ref p1), (2, .int p2), (3, .ref p3), (4, .int p4), (5, .int p5)], [.int v26, .ref p0])) zq_300 zo_300 (by with_unfolding_all rfl) ?_
          replace hf := zf_be hf
          obtain ⟨_, ho, hf⟩ := hf
          replace hf := zf_b3e hf
          obtain ⟨v53, h54, hv, hf⟩ | ⟨E55, h54, hv, hf⟩ := hf
          rotate_left
          · cases hf; exact zv_cx zq_300 zo_300 rfl rfl rfl rfl rfl (zv_cv rfl rfl rfl (zf_ise ho) rfl) (t_f_ColumnVault_turnChoice _ _ _ _ _ hv) rfl
          refine zv_c zq_300 zo_300 rfl rfl rfl rfl rfl (zv_cv rfl rfl rfl (zf_ise ho) rfl) (t_f_ColumnVault_turnChoice _ _ _ _ _ hv) ?_
          refine zv_p (k := 1) (f' := (147, [(7, .int v28), (6, .int v26), (0, .ref p0), (1, .ref p1), (2, .int p2), (3, .ref p3), (4, .int p4), (5, .int p5)], [.int v53])) zq_300 zo_300 (by with_unfolding_all rfl) ?_
          refine zv_pick (lv' := [(0, .ref p0), (1, .ref p1), (2, .int p2), (3, .ref p3), (4, .int p4), (5, .int p5)]) [0, 1, 2, 3, 4, 5] rfl rfl ?_
          exact t_f_ColumnVaultLaw_isBack_147 ih _ _ _ _ _ _ _ _ _ _ hf
set_option maxHeartbeats 1000000 in
def f_ColumnVaultLaw_isBack (p0 : Nat) (p1 : Nat) (h : zx_H) : Option ((Int32 ⊕ Nat) × zx_H) :=
  zf_b (zf_is 12 p0 h) fun _ =>
  zf_b2 (f_ColumnVault_version p0 h) fun v1 h2 =>
  zf_b2 (zf_newa .long 2 (3 : Int32) h2) fun q3 h4 =>
  zf_b3 (f_ColumnVaultLaw_digest p0 (0 : Int32) h4) fun v5 h6 =>
  zf_b (zf_stJ q3 (0 : Int32) v5 h6) fun h8 =>
  zf_b3 (f_ColumnVaultLaw_digest p0 (1 : Int32) h8) fun v9 h10 =>
  zf_b (zf_stJ q3 (1 : Int32) v9 h10) fun h12 =>
  zf_b3 (f_ColumnVaultLaw_digest p0 (2 : Int32) h12) fun v13 h14 =>
  zf_b (zf_stJ q3 (2 : Int32) v13 h14) fun h16 =>
  zf_b2 (f_ColumnVaultLaw_draw p1 (13 : Int32) h16) fun v17 h18 =>
  f_ColumnVaultLaw_isBack_44 zF p0 p1 v1 q3 v17 (0 : Int32) h18
set_option maxHeartbeats 4000000 in
set_option maxRecDepth 400000 in
theorem t_f_ColumnVaultLaw_isBack {sc : (Nat × (Nat → Int32)) × Bool} {d : Nat} (p0 : Nat) (p1 : Nat) (h : zx_H) (r : (Int32 ⊕ Nat)) (h' : zx_H) (hf : f_ColumnVaultLaw_isBack p0 p1 h = some (r, h')) : zx_T sc (d + 125) 300 (0, [(0, .ref p0), (1, .ref p1)], []) h (zf_oIx r) h' := by
  unfold f_ColumnVaultLaw_isBack at hf
  refine zv_p (k := 1) (f' := (1, [(0, .ref p0), (1, .ref p1)], [.ref p0])) zq_300 zo_300 (by with_unfolding_all rfl) ?_
  replace hf := zf_be hf
  obtain ⟨_, ho, hf⟩ := hf
  replace hf := zf_b2e hf
  obtain ⟨v1, h2, hv, hf⟩ := hf
  refine zv_c zq_300 zo_300 rfl rfl rfl rfl rfl (zv_cv rfl rfl rfl (zf_ise ho) rfl) (t_f_ColumnVault_version _ _ _ _ hv) ?_
  refine zv_p (k := 2) (f' := (6, [(2, .int v1), (0, .ref p0), (1, .ref p1)], [.int (3 : Int32)])) zq_300 zo_300 (by with_unfolding_all rfl) ?_
  replace hf := zf_b2e hf
  obtain ⟨q3, h4, hv, hf⟩ := hf
  refine zv_newa zq_300 zo_300 rfl rfl hv ?_
  refine zv_p (k := 4) (f' := (12, [(2, .int v1), (0, .ref p0), (1, .ref p1)], [.int (0 : Int32), .ref p0, .int (0 : Int32), .ref q3, .ref q3])) zq_300 zo_300 (by with_unfolding_all rfl) ?_
  replace hf := zf_b3e hf
  obtain ⟨v5, h6, hv, hf⟩ | ⟨E7, h6, hv, hf⟩ := hf
  rotate_left
  · cases hf; exact zv_cx zq_300 zo_300 rfl rfl rfl rfl rfl rfl (t_f_ColumnVaultLaw_digest _ _ _ _ _ hv) rfl
  refine zv_c zq_300 zo_300 rfl rfl rfl rfl rfl rfl (t_f_ColumnVaultLaw_digest _ _ _ _ _ hv) ?_
  replace hf := zf_be hf
  obtain ⟨h8, hv, hf⟩ := hf
  refine zv_stJ zq_300 zo_300 rfl hv ?_
  refine zv_p (k := 4) (f' := (20, [(2, .int v1), (0, .ref p0), (1, .ref p1)], [.int (1 : Int32), .ref p0, .int (1 : Int32), .ref q3, .ref q3])) zq_300 zo_300 (by with_unfolding_all rfl) ?_
  replace hf := zf_b3e hf
  obtain ⟨v9, h10, hv, hf⟩ | ⟨E11, h10, hv, hf⟩ := hf
  rotate_left
  · cases hf; exact zv_cx zq_300 zo_300 rfl rfl rfl rfl rfl rfl (t_f_ColumnVaultLaw_digest _ _ _ _ _ hv) rfl
  refine zv_c zq_300 zo_300 rfl rfl rfl rfl rfl rfl (t_f_ColumnVaultLaw_digest _ _ _ _ _ hv) ?_
  replace hf := zf_be hf
  obtain ⟨h12, hv, hf⟩ := hf
  refine zv_stJ zq_300 zo_300 rfl hv ?_
  refine zv_p (k := 4) (f' := (28, [(2, .int v1), (0, .ref p0), (1, .ref p1)], [.int (2 : Int32), .ref p0, .int (2 : Int32), .ref q3, .ref q3])) zq_300 zo_300 (by with_unfolding_all rfl) ?_
  replace hf := zf_b3e hf
  obtain ⟨v13, h14, hv, hf⟩ | ⟨E15, h14, hv, hf⟩ := hf
  rotate_left
  · cases hf; exact zv_cx zq_300 zo_300 rfl rfl rfl rfl rfl rfl (t_f_ColumnVaultLaw_digest _ _ _ _ _ hv) rfl
  refine zv_c zq_300 zo_300 rfl rfl rfl rfl rfl rfl (t_f_ColumnVaultLaw_digest _ _ _ _ _ hv) ?_
  replace hf := zf_be hf
  obtain ⟨h16, hv, hf⟩ := hf
  refine zv_stJ zq_300 zo_300 rfl hv ?_
  refine zv_p (k := 3) (f' := (36, [(3, .ref q3), (2, .int v1), (0, .ref p0), (1, .ref p1)], [.int (13 : Int32), .ref p1])) zq_300 zo_300 (by with_unfolding_all rfl) ?_
  replace hf := zf_b2e hf
  obtain ⟨v17, h18, hv, hf⟩ := hf
  refine zv_c zq_300 zo_300 rfl rfl rfl rfl rfl rfl (t_f_ColumnVaultLaw_draw _ _ _ _ _ hv) ?_
  refine zv_p (k := 3) (f' := (44, [(5, .int (0 : Int32)), (4, .int v17), (3, .ref q3), (2, .int v1), (0, .ref p0), (1, .ref p1)], [])) zq_300 zo_300 (by with_unfolding_all rfl) ?_
  refine zv_pick (lv' := [(0, .ref p0), (1, .ref p1), (2, .int v1), (3, .ref q3), (4, .int v17), (5, .int (0 : Int32))]) [0, 1, 2, 3, 4, 5] rfl rfl ?_
  exact t_f_ColumnVaultLaw_isBack_44 zF _ _ _ _ _ _ _ _ _ hf
/-! ColumnVaultLaw.areRefused (LColumnVault;arr I)Z -/
noncomputable def zI_302 : zd_T := [[(0, .aload_n 0, 1), (1, .invokevirtual 198, 3), (4, .istore_n 2, 1), (5, .aload_n 1, 1), (6, .iconst 2, 1), (7, .invokestatic 16, 3), (10, .ifCond .ne 13, 3), (13, .iconst 3, 1), (14, .aload_n 1, 1), (15, .iconst 3, 1), (16, .invokestatic 16, 3), (19, .iadd, 1), (20, .goto 10, 3), (23, .iconst (-1), 1), (24, .aload_n 1, 1), (25, .iconst 3, 1), (26, .invokestatic 16, 3), (29, .isub, 1), (30, .istore_n 3, 1), (31, .aload_n 0, 1)], [(32, .iconst 0, 1), (33, .iconst 1, 1), (34, .invokevirtual 147, 3), (37, .istore 4, 2), (39, .aload_n 0, 1), (40, .iconst 0, 1), (41, .iload_n 3, 1), (42, .bipush 9, 2), (44, .lconst 0, 1), (45, .invokestatic 278, 3), (48, .ldc2_w 152, 3), (51, .lcmp, 1), (52, .ifCond .ne 251, 3), (55, .aload_n 0, 1), (56, .iconst 0, 1), (57, .iconst 0, 1), (58, .iconst 2, 1), (59, .lconst 0, 1), (60, .invokestatic 278, 3), (63, .ldc2_w 160, 3)], [(66, .lcmp, 1), (67, .ifCond .ne 236, 3), (70, .aload_n 0, 1), (71, .iconst 1, 1), (72, .iload_n 3, 1), (73, .iconst 0, 1), (74, .lconst 0, 1), (75, .invokestatic 278, 3), (78, .ldc2_w 152, 3), (81, .lcmp, 1), (82, .ifCond .ne 221, 3), (85, .aload_n 0, 1), (86, .iconst 2, 1), (87, .iconst 0, 1), (88, .iload 4, 2), (90, .lconst 0, 1), (91, .invokestatic 278, 3), (94, .ldc2_w 152, 3)], [(97, .lcmp, 1), (98, .ifCond .ne 205, 3), (101, .aload_n 0, 1), (102, .iconst 2, 1), (103, .iconst 0, 1), (104, .iconst 0, 1), (105, .ldc2_w 384, 3), (108, .invokestatic 278, 3), (111, .ldc2_w 160, 3), (114, .lcmp, 1), (115, .ifCond .ne 188, 3), (118, .aload_n 0, 1), (119, .iconst 2, 1), (120, .iconst 0, 1), (121, .iconst 0, 1), (122, .ldc2_w 386, 3), (125, .invokestatic 278, 3)], [(128, .ldc2_w 160, 3), (131, .lcmp, 1), (132, .ifCond .ne 171, 3), (135, .aload_n 0, 1), (136, .bipush 6, 2), (138, .iconst 0, 1), (139, .aload_n 0, 1), (140, .iconst 0, 1), (141, .iconst 0, 1), (142, .invokevirtual 147, 3), (145, .lconst 0, 1), (146, .invokestatic 278, 3), (149, .ldc2_w 152, 3), (152, .lcmp, 1), (153, .ifCond .ne 150, 3), (156, .aload_n 0, 1), (157, .bipush 12, 2), (159, .iconst 0, 1)], [(160, .iconst 0, 1), (161, .ldc2_w 388, 3), (164, .invokestatic 278, 3), (167, .ldc2_w 160, 3), (170, .lcmp, 1), (171, .ifCond .ne 132, 3), (174, .aload_n 0, 1), (175, .bipush 12, 2), (177, .iconst 0, 1), (178, .iload 4, 2), (180, .ldc2_w 388, 3), (183, .invokestatic 278, 3), (186, .ldc2_w 152, 3), (189, .lcmp, 1), (190, .ifCond .ne 113, 3)], [(193, .aload_n 0, 1), (194, .bipush 14, 2), (196, .iconst 0, 1), (197, .iconst 0, 1), (198, .ldc2_w 384, 3), (201, .invokestatic 278, 3), (204, .ldc2_w 160, 3), (207, .lcmp, 1), (208, .ifCond .ne 95, 3), (211, .aload_n 0, 1), (212, .bipush 15, 2), (214, .iconst 0, 1), (215, .iconst 0, 1), (216, .ldc2_w 204, 3), (219, .invokestatic 278, 3), (222, .ldc2_w 160, 3)], [(225, .lcmp, 1), (226, .ifCond .ne 77, 3), (229, .aload_n 0, 1), (230, .bipush 18, 2), (232, .iconst 0, 1), (233, .iload_n 3, 1), (234, .ldc2_w 390, 3), (237, .invokestatic 278, 3), (240, .ldc2_w 152, 3), (243, .lcmp, 1), (244, .ifCond .ne 59, 3), (247, .aload_n 0, 1), (248, .bipush 18, 2), (250, .iconst 0, 1), (251, .iconst 0, 1), (252, .ldc2_w 378, 3), (255, .invokestatic 278, 3)], [(258, .ldc2_w 160, 3), (261, .lcmp, 1), (262, .ifCond .ne 41, 3), (265, .aload_n 0, 1), (266, .bipush 21, 2), (268, .iconst 0, 1), (269, .iconst 4, 1), (270, .lconst 0, 1), (271, .invokestatic 278, 3), (274, .ldc2_w 160, 3), (277, .lcmp, 1), (278, .ifCond .ne 25, 3), (281, .aload_n 0, 1), (282, .bipush 20, 2), (284, .iconst 0, 1), (285, .iconst 0, 1), (286, .aload_n 0, 1), (287, .iconst 0, 1)], [(288, .iconst 0, 1), (289, .invokevirtual 147, 3), (292, .i2l, 1), (293, .invokestatic 278, 3), (296, .ldc2_w 152, 3), (299, .lcmp, 1), (300, .ifCond .eq 5, 3), (303, .iconst 0, 1), (304, .ireturn, 1), (305, .aload_n 0, 1), (306, .iconst 0, 1), (307, .iconst 0, 1), (308, .invokevirtual 147, 3), (311, .ifCond .le 55, 3), (314, .aload_n 0, 1), (315, .iconst 3, 1), (316, .iconst 0, 1), (317, .iconst 0, 1), (318, .ldc2_w 384, 3)], [(321, .invokestatic 278, 3), (324, .ldc2_w 160, 3), (327, .lcmp, 1), (328, .ifCond .ne 36, 3), (331, .aload_n 0, 1), (332, .iconst 3, 1), (333, .iconst 0, 1), (334, .iload 4, 2), (336, .lconst 1, 1), (337, .invokestatic 278, 3), (340, .ldc2_w 152, 3), (343, .lcmp, 1), (344, .ifCond .ne 20, 3), (347, .aload_n 0, 1), (348, .iconst 4, 1), (349, .iconst 0, 1), (350, .iconst 0, 1), (351, .iload 4, 2)], [(353, .i2l, 1), (354, .invokestatic 278, 3), (357, .ldc2_w 152, 3), (360, .lcmp, 1), (361, .ifCond .eq 5, 3), (364, .iconst 0, 1), (365, .ireturn, 1), (366, .iconst 0, 1), (367, .istore 5, 2), (369, .iload 5, 2), (371, .iload 4, 2), (373, .if_icmp .ge 105, 3), (376, .aload_n 0, 1), (377, .iconst 0, 1), (378, .iconst 0, 1), (379, .invokevirtual 147, 3), (382, .ifCond .le 96, 3)], [(385, .aload_n 0, 1), (386, .iconst 0, 1), (387, .iload 5, 2), (389, .invokevirtual 166, 3), (392, .iconst 1, 1), (393, .if_icmp .ne 79, 3), (396, .aload_n 0, 1), (397, .iconst 3, 1), (398, .iconst 0, 1), (399, .iload 5, 2), (401, .ldc2_w 392, 3), (404, .invokestatic 278, 3), (407, .ldc2_w 160, 3), (410, .lcmp, 1), (411, .ifCond .ne 59, 3), (414, .aload_n 0, 1), (415, .iconst 3, 1)], [(416, .iconst 0, 1), (417, .iload 5, 2), (419, .ldc2_w 394, 3), (422, .invokestatic 278, 3), (425, .ldc2_w 160, 3), (428, .lcmp, 1), (429, .ifCond .ne 41, 3), (432, .aload_n 0, 1), (433, .iconst 3, 1), (434, .iconst 0, 1), (435, .iload 5, 2), (437, .ldc_w 355, 3), (440, .invokestatic 50, 3), (443, .invokestatic 278, 3), (446, .ldc2_w 160, 3)], [(449, .lcmp, 1), (450, .ifCond .ne 20, 3), (453, .aload_n 0, 1), (454, .bipush 20, 2), (456, .iconst 0, 1), (457, .iload 5, 2), (459, .lconst 0, 1), (460, .invokestatic 278, 3), (463, .ldc2_w 160, 3), (466, .lcmp, 1), (467, .ifCond .eq 5, 3), (470, .iconst 0, 1), (471, .ireturn, 1), (472, .iinc 5 1, 3), (475, .goto (-106), 3), (478, .aload_n 0, 1), (479, .invokevirtual 198, 3)], [(482, .iload_n 2, 1), (483, .if_icmp .eq 5, 3), (486, .iconst 0, 1), (487, .ireturn, 1), (488, .aload_n 0, 1), (489, .iconst 0, 1), (490, .iconst 0, 1), (491, .invokevirtual 147, 3), (494, .bipush 40, 2), (496, .if_icmp .ge 13, 3), (499, .aload_n 0, 1), (500, .iconst 0, 1), (501, .invokevirtual 80, 3), (504, .ifCond .ge (-16), 3), (507, .iconst 0, 1), (508, .ireturn, 1), (509, .aload_n 0, 1), (510, .invokevirtual 198, 3)], [(513, .istore_n 2, 1), (514, .aload_n 0, 1), (515, .iconst 1, 1), (516, .iconst 0, 1), (517, .iconst 0, 1), (518, .lconst 0, 1), (519, .invokestatic 278, 3), (522, .ldc2_w 164, 3), (525, .lcmp, 1), (526, .ifCond .ne 41, 3), (529, .aload_n 0, 1), (530, .iconst 2, 1), (531, .iconst 0, 1), (532, .iconst 0, 1), (533, .lconst 1, 1), (534, .invokestatic 278, 3), (537, .ldc2_w 164, 3), (540, .lcmp, 1), (541, .ifCond .ne 26, 3)], [(544, .aload_n 0, 1), (545, .invokevirtual 198, 3), (548, .iload_n 2, 1), (549, .if_icmp .ne 18, 3), (552, .aload_n 0, 1), (553, .iconst 0, 1), (554, .iconst 0, 1), (555, .invokevirtual 147, 3), (558, .bipush 40, 2), (560, .if_icmp .ne 7, 3), (563, .iconst 1, 1), (564, .goto 4, 3), (567, .iconst 0, 1), (568, .ireturn, 1)]]
theorem zo_302 : zd_of 302 = some zI_302 := rfl
set_option maxRecDepth 100000 in
theorem zq_302 : zt_m[302]? = some (⟨"ColumnVaultLaw", "areRefused", "(LColumnVault;[I)Z"⟩, method_31_code, 6, some (.boolean), [], 17, 2, 0, 1, 99999, 0) := rfl
