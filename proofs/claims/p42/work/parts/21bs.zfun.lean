set_option maxHeartbeats 1000000 in
def f_ColumnVaultLaw_isFilter_192 : Nat → Nat → Int32 → Nat → Nat → Nat → Int32 → Int32 → Int32 → zx_H → Option ((Int32 ⊕ Nat) × zx_H)
  | 0, _, _, _, _, _, _, _, _, _ => none
  | n + 1, p0, p1, p2, p3, p4, p5, p6, p7, h =>
    zf_b (zf_len p3 h) fun v1 =>
    if v1 ≤ p7 then
      zf_b (zf_is 12 p0 h) fun _ =>
      zf_b3 (f_ColumnVault_choose p0 p1 p5 h) fun v2 h3 =>
      zf_b2 (f_ColumnVaultLaw_size p4 h3) fun v5 h6 =>
      if ¬ v2 = v5 then
        some (.inl (0 : Int32), h6)
      else
        zf_b3 (f_ColumnVaultLaw_choice p0 p1 h6) fun v7 h8 =>
        zf_b2 (f_ColumnVaultLaw_same v7 p4 h8) fun v10 h11 =>
        if v10 = 0 then
          some (.inl (0 : Int32), h11)
        else
          zf_b (zf_is 12 p0 h11) fun _ =>
          zf_b2 (f_ColumnVault_version p0 h11) fun v12 h13 =>
          if v12 = (p6 + (1 : Int32)) then
            zf_b2 (zf_new 1 h13) fun q14 h15 =>
            zf_b2 (f_StringBuilder_init q14 h15) fun _ h17 =>
            zf_b (zf_is 1 q14 h17) fun _ =>
            zf_b2 (f_StringBuilder_appendq3 q14 (zx_lim + 1 + 634) h17) fun v18 h19 =>
            zf_b (zf_is 1 v18 h19) fun _ =>
            zf_b2 (f_StringBuilder_appendq6 v18 p2 h19) fun v20 h21 =>
            zf_b (zf_is 1 v20 h21) fun _ =>
            zf_b2 (f_StringBuilder_appendq3 v20 (zx_lim + 1 + 624) h21) fun v22 h23 =>
            zf_b (zf_is 1 v22 h23) fun _ =>
            zf_b2 (f_StringBuilder_toString v22 h23) fun v24 h25 =>
            zf_b2 (f_ColumnVaultLaw_says p0 v24 h25) fun _ h27 =>
            zf_b (zf_is 12 p0 h27) fun _ =>
            zf_b3 (f_ColumnVault_count p0 p1 h27) fun v28 h29 =>
            zf_b (zf_len p3 h29) fun v31 =>
            zf_b2 (f_ColumnVaultLaw_size p3 h29) fun v32 h33 =>
            if ¬ v28 = (v31 - v32) then
              some (.inl (0 : Int32), h33)
            else
              zf_b (zf_is 12 p0 h33) fun _ =>
              zf_b3 (f_ColumnVault_turnChoice p0 p1 h33) fun v34 h35 =>
              zf_b (zf_len p3 h35) fun v37 =>
              zf_b2 (f_ColumnVaultLaw_size p4 h35) fun v38 h39 =>
              if ¬ v34 = (v37 - v38) then
                some (.inl (0 : Int32), h39)
              else
                zf_b (zf_is 12 p0 h39) fun _ =>
                zf_b3 (f_ColumnVault_size p0 p1 (2 : Int32) h39) fun v40 h41 =>
                zf_b (zf_len p3 h41) fun v43 =>
                zf_b2 (f_ColumnVaultLaw_size p4 h41) fun v44 h45 =>
                if ¬ v40 = (v43 - v44) then
                  some (.inl (0 : Int32), h45)
                else
                  some (.inl (1 : Int32), h45)
          else
            some (.inl (0 : Int32), h13)
    else
      if ¬ p5 = 0 then
        if ¬ p5 = (1 : Int32) then
          if ¬ p5 = (2 : Int32) then
            zf_b (zf_ldB p4 p7 h) fun v46 =>
            if v46 = 0 then
              zf_b (zf_stB p4 p7 (0 : Int32) h) fun h47 =>
              (f_ColumnVaultLaw_isFilter_192 n) p0 p1 p2 p3 p4 p5 p6 (p7 + (1 : Int32)) h47
            else
              zf_b (zf_ldB p3 p7 h) fun v48 =>
              if ¬ v48 = 0 then
                zf_b (zf_stB p4 p7 (0 : Int32) h) fun h49 =>
                (f_ColumnVaultLaw_isFilter_192 n) p0 p1 p2 p3 p4 p5 p6 (p7 + (1 : Int32)) h49
              else
                zf_b (zf_stB p4 p7 (1 : Int32) h) fun h50 =>
                (f_ColumnVaultLaw_isFilter_192 n) p0 p1 p2 p3 p4 p5 p6 (p7 + (1 : Int32)) h50
          else
            zf_b (zf_ldB p4 p7 h) fun v51 =>
            if ¬ v51 = 0 then
              zf_b (zf_stB p4 p7 (1 : Int32) h) fun h52 =>
              (f_ColumnVaultLaw_isFilter_192 n) p0 p1 p2 p3 p4 p5 p6 (p7 + (1 : Int32)) h52
            else
              zf_b (zf_ldB p3 p7 h) fun v53 =>
              if v53 = 0 then
                zf_b (zf_stB p4 p7 (0 : Int32) h) fun h54 =>
                (f_ColumnVaultLaw_isFilter_192 n) p0 p1 p2 p3 p4 p5 p6 (p7 + (1 : Int32)) h54
              else
                zf_b (zf_stB p4 p7 (1 : Int32) h) fun h55 =>
                (f_ColumnVaultLaw_isFilter_192 n) p0 p1 p2 p3 p4 p5 p6 (p7 + (1 : Int32)) h55
        else
          zf_b (zf_ldB p4 p7 h) fun v56 =>
          if v56 = 0 then
            zf_b (zf_stB p4 p7 (0 : Int32) h) fun h57 =>
            (f_ColumnVaultLaw_isFilter_192 n) p0 p1 p2 p3 p4 p5 p6 (p7 + (1 : Int32)) h57
          else
            zf_b (zf_ldB p3 p7 h) fun v58 =>
            if v58 = 0 then
              zf_b (zf_stB p4 p7 (0 : Int32) h) fun h59 =>
              (f_ColumnVaultLaw_isFilter_192 n) p0 p1 p2 p3 p4 p5 p6 (p7 + (1 : Int32)) h59
            else
              zf_b (zf_stB p4 p7 (1 : Int32) h) fun h60 =>
              (f_ColumnVaultLaw_isFilter_192 n) p0 p1 p2 p3 p4 p5 p6 (p7 + (1 : Int32)) h60
      else
        zf_b (zf_ldB p3 p7 h) fun v61 =>
        zf_b (zf_stB p4 p7 v61 h) fun h62 =>
        (f_ColumnVaultLaw_isFilter_192 n) p0 p1 p2 p3 p4 p5 p6 (p7 + (1 : Int32)) h62
set_option maxHeartbeats 4000000 in
set_option maxRecDepth 400000 in
theorem t_f_ColumnVaultLaw_isFilter_192 {sc : (Nat × (Nat → Int32)) × Bool} {d : Nat} : ∀ (n : Nat) (p0 : Nat) (p1 : Int32) (p2 : Nat) (p3 : Nat) (p4 : Nat) (p5 : Int32) (p6 : Int32) (p7 : Int32) (h : zx_H) (r : (Int32 ⊕ Nat)) (h' : zx_H), f_ColumnVaultLaw_isFilter_192 n p0 p1 p2 p3 p4 p5 p6 p7 h = some (r, h') → zx_T sc (d + 187) 256 (192, [(0, .ref p0), (2, .int p1), (3, .ref p2), (5, .ref p3), (8, .ref p4), (9, .int p5), (10, .int p6), (11, .int p7)], []) h (zf_oIx r) h' := by
  intro n
  induction n with
  | zero => intro p0 p1 p2 p3 p4 p5 p6 p7 h r h' hf; cases hf
  | succ n ih =>
    intro p0 p1 p2 p3 p4 p5 p6 p7 h r h' hf
    unfold f_ColumnVaultLaw_isFilter_192 at hf
    refine zv_p (k := 2) (f' := (196, [(0, .ref p0), (2, .int p1), (3, .ref p2), (5, .ref p3), (8, .ref p4), (9, .int p5), (10, .int p6), (11, .int p7)], [.ref p3, .int p7])) zq_256 zo_256 (by with_unfolding_all rfl) ?_
    replace hf := zf_be hf
    obtain ⟨v1, hv, hf⟩ := hf
    refine zv_len zq_256 zo_256 rfl hv ?_
    replace hf := zf_ite hf
    obtain ⟨hc, hf⟩ | ⟨hc, hf⟩ := hf
    · refine zv_brT (off := 108) (tt := 305) (r := []) zq_256 zo_256 hc rfl rfl rfl ?_
      refine zv_p (k := 3) (f' := (309, [(0, .ref p0), (2, .int p1), (3, .ref p2), (5, .ref p3), (8, .ref p4), (9, .int p5), (10, .int p6), (11, .int p7)], [.int p5, .int p1, .ref p0])) zq_256 zo_256 (by with_unfolding_all rfl) ?_
      replace hf := zf_be hf
      obtain ⟨_, ho, hf⟩ := hf
      replace hf := zf_b3e hf
      obtain ⟨v2, h3, hv, hf⟩ | ⟨E4, h3, hv, hf⟩ := hf
      rotate_left
      · cases hf; exact zv_cx zq_256 zo_256 rfl rfl rfl rfl rfl (zv_cv rfl rfl rfl (zf_ise ho) rfl) (t_f_ColumnVault_choose _ _ _ _ _ _ hv) rfl
      refine zv_c zq_256 zo_256 rfl rfl rfl rfl rfl (zv_cv rfl rfl rfl (zf_ise ho) rfl) (t_f_ColumnVault_choose _ _ _ _ _ _ hv) ?_
      refine zv_p (k := 1) (f' := (314, [(0, .ref p0), (2, .int p1), (3, .ref p2), (5, .ref p3), (8, .ref p4), (9, .int p5), (10, .int p6), (11, .int p7)], [.ref p4, .int v2])) zq_256 zo_256 (by with_unfolding_all rfl) ?_
      replace hf := zf_b2e hf
      obtain ⟨v5, h6, hv, hf⟩ := hf
      refine zv_c zq_256 zo_256 rfl rfl rfl rfl rfl rfl (t_f_ColumnVaultLaw_size _ _ _ _ hv) ?_
      replace hf := zf_ite hf
      obtain ⟨hc, hf⟩ | ⟨hc, hf⟩ := hf
      · refine zv_brT (off := 27) (tt := 344) (r := []) zq_256 zo_256 hc rfl rfl rfl ?_
        refine zv_p (k := 1) (f' := (345, [(0, .ref p0), (2, .int p1), (3, .ref p2), (5, .ref p3), (8, .ref p4), (9, .int p5), (10, .int p6), (11, .int p7)], [.int (0 : Int32)])) zq_256 zo_256 (by with_unfolding_all rfl) ?_
        cases hf
        exact zv_rn zq_256 zo_256 rfl rfl
      · refine zv_brF (off := 27) (tt := 344) (r := []) zq_256 zo_256 hc rfl rfl rfl ?_
        refine zv_p (k := 2) (f' := (322, [(0, .ref p0), (2, .int p1), (3, .ref p2), (5, .ref p3), (8, .ref p4), (9, .int p5), (10, .int p6), (11, .int p7)], [.int p1, .ref p0])) zq_256 zo_256 (by with_unfolding_all rfl) ?_
        replace hf := zf_b3e hf
        obtain ⟨v7, h8, hv, hf⟩ | ⟨E9, h8, hv, hf⟩ := hf
        rotate_left
        · cases hf; exact zv_cx zq_256 zo_256 rfl rfl rfl rfl rfl rfl (t_f_ColumnVaultLaw_choice _ _ _ _ _ hv) rfl
        refine zv_c zq_256 zo_256 rfl rfl rfl rfl rfl rfl (t_f_ColumnVaultLaw_choice _ _ _ _ _ hv) ?_
        refine zv_p (k := 1) (f' := (327, [(0, .ref p0), (2, .int p1), (3, .ref p2), (5, .ref p3), (8, .ref p4), (9, .int p5), (10, .int p6), (11, .int p7)], [.ref p4, .ref v7])) zq_256 zo_256 (by with_unfolding_all rfl) ?_
        replace hf := zf_b2e hf
        obtain ⟨v10, h11, hv, hf⟩ := hf
        refine zv_c zq_256 zo_256 rfl rfl rfl rfl rfl rfl (t_f_ColumnVaultLaw_same _ _ _ _ _ hv) ?_
        replace hf := zf_ite hf
        obtain ⟨hc, hf⟩ | ⟨hc, hf⟩ := hf
        · refine zv_brT (off := 14) (tt := 344) (r := []) zq_256 zo_256 hc rfl rfl rfl ?_
          refine zv_p (k := 1) (f' := (345, [(0, .ref p0), (2, .int p1), (3, .ref p2), (5, .ref p3), (8, .ref p4), (9, .int p5), (10, .int p6), (11, .int p7)], [.int (0 : Int32)])) zq_256 zo_256 (by with_unfolding_all rfl) ?_
          cases hf
          exact zv_rn zq_256 zo_256 rfl rfl
        · refine zv_brF (off := 14) (tt := 344) (r := []) zq_256 zo_256 hc rfl rfl rfl ?_
          refine zv_p (k := 1) (f' := (334, [(0, .ref p0), (2, .int p1), (3, .ref p2), (5, .ref p3), (8, .ref p4), (9, .int p5), (10, .int p6), (11, .int p7)], [.ref p0])) zq_256 zo_256 (by with_unfolding_all rfl) ?_
          replace hf := zf_be hf
          obtain ⟨_, ho, hf⟩ := hf
          replace hf := zf_b2e hf
          obtain ⟨v12, h13, hv, hf⟩ := hf
          refine zv_c zq_256 zo_256 rfl rfl rfl rfl rfl (zv_cv rfl rfl rfl (zf_ise ho) rfl) (t_f_ColumnVault_version _ _ _ _ hv) ?_
          refine zv_p (k := 3) (f' := (341, [(0, .ref p0), (2, .int p1), (3, .ref p2), (5, .ref p3), (8, .ref p4), (9, .int p5), (10, .int p6), (11, .int p7)], [.int (p6 + (1 : Int32)), .int v12])) zq_256 zo_256 (by with_unfolding_all rfl) ?_
          replace hf := zf_ite hf
          obtain ⟨hc, hf⟩ | ⟨hc, hf⟩ := hf
          · refine zv_brT (off := 5) (tt := 346) (r := []) zq_256 zo_256 hc rfl rfl rfl ?_
            refine zv_p (k := 1) (f' := (347, [(0, .ref p0), (2, .int p1), (3, .ref p2), (5, .ref p3), (8, .ref p4), (9, .int p5), (10, .int p6), (11, .int p7)], [.ref p0])) zq_256 zo_256 (by with_unfolding_all rfl) ?_
            replace hf := zf_b2e hf
            obtain ⟨q14, h15, hv, hf⟩ := hf
            refine zv_new zq_256 zo_256 rfl rfl rfl hv ?_
            refine zv_p (k := 1) (f' := (351, [(0, .ref p0), (2, .int p1), (3, .ref p2), (5, .ref p3), (8, .ref p4), (9, .int p5), (10, .int p6), (11, .int p7)], [.ref q14, .ref q14, .ref p0])) zq_256 zo_256 (by with_unfolding_all rfl) ?_
            replace hf := zf_b2e hf
            obtain ⟨v16, h17, hv, hf⟩ := hf
            refine zv_c zq_256 zo_256 rfl rfl rfl rfl rfl rfl (t_f_StringBuilder_init _ _ _ _ hv) ?_
            refine zv_strw zq_256 zo_256 rfl rfl ?_
            replace hf := zf_be hf
            obtain ⟨_, ho, hf⟩ := hf
            replace hf := zf_b2e hf
            obtain ⟨v18, h19, hv, hf⟩ := hf
            refine zv_c zq_256 zo_256 rfl rfl rfl rfl rfl (zv_cv rfl rfl rfl (zf_ise ho) rfl) (t_f_StringBuilder_appendq3 _ _ _ _ _ hv) ?_
            refine zv_p (k := 1) (f' := (361, [(0, .ref p0), (2, .int p1), (3, .ref p2), (5, .ref p3), (8, .ref p4), (9, .int p5), (10, .int p6), (11, .int p7)], [.ref p2, .ref v18, .ref p0])) zq_256 zo_256 (by with_unfolding_all rfl) ?_
            replace hf := zf_be hf
            obtain ⟨_, ho, hf⟩ := hf
            replace hf := zf_b2e hf
            obtain ⟨v20, h21, hv, hf⟩ := hf
            refine zv_c zq_256 zo_256 rfl rfl rfl rfl rfl (zv_cv rfl rfl rfl (zf_ise ho) rfl) (t_f_StringBuilder_appendq6 _ _ _ _ _ hv) ?_
            refine zv_strw zq_256 zo_256 rfl rfl ?_
            replace hf := zf_be hf
            obtain ⟨_, ho, hf⟩ := hf
            replace hf := zf_b2e hf
            obtain ⟨v22, h23, hv, hf⟩ := hf
            refine zv_c zq_256 zo_256 rfl rfl rfl rfl rfl (zv_cv rfl rfl rfl (zf_ise ho) rfl) (t_f_StringBuilder_appendq3 _ _ _ _ _ hv) ?_
            replace hf := zf_be hf
            obtain ⟨_, ho, hf⟩ := hf
            replace hf := zf_b2e hf
            obtain ⟨v24, h25, hv, hf⟩ := hf
            refine zv_c zq_256 zo_256 rfl rfl rfl rfl rfl (zv_cv rfl rfl rfl (zf_ise ho) rfl) (t_f_StringBuilder_toString _ _ _ _ hv) ?_
            replace hf := zf_b2e hf
            obtain ⟨v26, h27, hv, hf⟩ := hf
            refine zv_c zq_256 zo_256 rfl rfl rfl rfl rfl rfl (t_f_ColumnVaultLaw_says _ _ _ _ _ hv) ?_
            refine zv_p (k := 2) (f' := (378, [(0, .ref p0), (2, .int p1), (3, .ref p2), (5, .ref p3), (8, .ref p4), (9, .int p5), (10, .int p6), (11, .int p7)], [.int p1, .ref p0])) zq_256 zo_256 (by with_unfolding_all rfl) ?_
            replace hf := zf_be hf
            obtain ⟨_, ho, hf⟩ := hf
            replace hf := zf_b3e hf
            obtain ⟨v28, h29, hv, hf⟩ | ⟨E30, h29, hv, hf⟩ := hf
            rotate_left
            · cases hf; exact zv_cx zq_256 zo_256 rfl rfl rfl rfl rfl (zv_cv rfl rfl rfl (zf_ise ho) rfl) (t_f_ColumnVault_count _ _ _ _ _ hv) rfl
            refine zv_c zq_256 zo_256 rfl rfl rfl rfl rfl (zv_cv rfl rfl rfl (zf_ise ho) rfl) (t_f_ColumnVault_count _ _ _ _ _ hv) ?_
            refine zv_p (k := 1) (f' := (383, [(0, .ref p0), (2, .int p1), (3, .ref p2), (5, .ref p3), (8, .ref p4), (9, .int p5), (10, .int p6), (11, .int p7)], [.ref p3, .int v28])) zq_256 zo_256 (by with_unfolding_all rfl) ?_
            replace hf := zf_be hf
            obtain ⟨v31, hv, hf⟩ := hf
            refine zv_len zq_256 zo_256 rfl hv ?_
            refine zv_p (k := 1) (f' := (386, [(0, .ref p0), (2, .int p1), (3, .ref p2), (5, .ref p3), (8, .ref p4), (9, .int p5), (10, .int p6), (11, .int p7)], [.ref p3, .int v31, .int v28])) zq_256 zo_256 (by with_unfolding_all rfl) ?_
            replace hf := zf_b2e hf
            obtain ⟨v32, h33, hv, hf⟩ := hf
            refine zv_c zq_256 zo_256 rfl rfl rfl rfl rfl rfl (t_f_ColumnVaultLaw_size _ _ _ _ hv) ?_
            refine zv_p (k := 1) (f' := (390, [(0, .ref p0), (2, .int p1), (3, .ref p2), (5, .ref p3), (8, .ref p4), (9, .int p5), (10, .int p6), (11, .int p7)], [.int (v31 - v32), .int v28])) zq_256 zo_256 (by with_unfolding_all rfl) ?_
            replace hf := zf_ite hf
            obtain ⟨hc, hf⟩ | ⟨hc, hf⟩ := hf
            · refine zv_brT (off := 42) (tt := 432) (r := []) zq_256 zo_256 hc rfl rfl rfl ?_
              refine zv_p (k := 1) (f' := (433, [(0, .ref p0), (2, .int p1), (3, .ref p2), (5, .ref p3), (8, .ref p4), (9, .int p5), (10, .int p6), (11, .int p7)], [.int (0 : Int32)])) zq_256 zo_256 (by with_unfolding_all rfl) ?_
              cases hf
              exact zv_rn zq_256 zo_256 rfl rfl
            · refine zv_brF (off := 42) (tt := 432) (r := []) zq_256 zo_256 hc rfl rfl rfl ?_
              refine zv_p (k := 2) (f' := (395, [(0, .ref p0), (2, .int p1), (3, .ref p2), (5, .ref p3), (8, .ref p4), (9, .int p5), (10, .int p6), (11, .int p7)], [.int p1, .ref p0])) zq_256 zo_256 (by with_unfolding_all rfl) ?_
              replace hf := zf_be hf
              obtain ⟨_, ho, hf⟩ := hf
              replace hf := zf_b3e hf
              obtain ⟨v34, h35, hv, hf⟩ | ⟨E36, h35, hv, hf⟩ := hf
              rotate_left
              · cases hf; exact zv_cx zq_256 zo_256 rfl rfl rfl rfl rfl (zv_cv rfl rfl rfl (zf_ise ho) rfl) (t_f_ColumnVault_turnChoice _ _ _ _ _ hv) rfl
              refine zv_c zq_256 zo_256 rfl rfl rfl rfl rfl (zv_cv rfl rfl rfl (zf_ise ho) rfl) (t_f_ColumnVault_turnChoice _ _ _ _ _ hv) ?_
              refine zv_p (k := 1) (f' := (400, [(0, .ref p0), (2, .int p1), (3, .ref p2), (5, .ref p3), (8, .ref p4), (9, .int p5), (10, .int p6), (11, .int p7)], [.ref p3, .int v34])) zq_256 zo_256 (by with_unfolding_all rfl) ?_
              replace hf := zf_be hf
              obtain ⟨v37, hv, hf⟩ := hf
              refine zv_len zq_256 zo_256 rfl hv ?_
              refine zv_p (k := 1) (f' := (403, [(0, .ref p0), (2, .int p1), (3, .ref p2), (5, .ref p3), (8, .ref p4), (9, .int p5), (10, .int p6), (11, .int p7)], [.ref p4, .int v37, .int v34])) zq_256 zo_256 (by with_unfolding_all rfl) ?_
              replace hf := zf_b2e hf
              obtain ⟨v38, h39, hv, hf⟩ := hf
              refine zv_c zq_256 zo_256 rfl rfl rfl rfl rfl rfl (t_f_ColumnVaultLaw_size _ _ _ _ hv) ?_
              refine zv_p (k := 1) (f' := (407, [(0, .ref p0), (2, .int p1), (3, .ref p2), (5, .ref p3), (8, .ref p4), (9, .int p5), (10, .int p6), (11, .int p7)], [.int (v37 - v38), .int v34])) zq_256 zo_256 (by with_unfolding_all rfl) ?_
              replace hf := zf_ite hf
              obtain ⟨hc, hf⟩ | ⟨hc, hf⟩ := hf
              · refine zv_brT (off := 25) (tt := 432) (r := []) zq_256 zo_256 hc rfl rfl rfl ?_
                refine zv_p (k := 1) (f' := (433, [(0, .ref p0), (2, .int p1), (3, .ref p2), (5, .ref p3), (8, .ref p4), (9, .int p5), (10, .int p6), (11, .int p7)], [.int (0 : Int32)])) zq_256 zo_256 (by with_unfolding_all rfl) ?_
                cases hf
                exact zv_rn zq_256 zo_256 rfl rfl
              · refine zv_brF (off := 25) (tt := 432) (r := []) zq_256 zo_256 hc rfl rfl rfl ?_
                refine zv_p (k := 3) (f' := (413, [(0, .ref p0), (2, .int p1), (3, .ref p2), (5, .ref p3), (8, .ref p4), (9, .int p5), (10, .int p6), (11, .int p7)], [.int (2 : Int32), .int p1, .ref p0])) zq_256 zo_256 (by with_unfolding_all rfl) ?_
                replace hf := zf_be hf
                obtain ⟨_, ho, hf⟩ := hf
                replace hf := zf_b3e hf
                obtain ⟨v40, h41, hv, hf⟩ | ⟨E42, h41, hv, hf⟩ := hf
                rotate_left
                · cases hf; exact zv_cx zq_256 zo_256 rfl rfl rfl rfl rfl (zv_cv rfl rfl rfl (zf_ise ho) rfl) (t_f_ColumnVault_size _ _ _ _ _ _ hv) rfl
                refine zv_c zq_256 zo_256 rfl rfl rfl rfl rfl (zv_cv rfl rfl rfl (zf_ise ho) rfl) (t_f_ColumnVault_size _ _ _ _ _ _ hv) ?_
                refine zv_p (k := 1) (f' := (418, [(0, .ref p0), (2, .int p1), (3, .ref p2), (5, .ref p3), (8, .ref p4), (9, .int p5), (10, .int p6), (11, .int p7)], [.ref p3, .int v40])) zq_256 zo_256 (by with_unfolding_all rfl) ?_
                replace hf := zf_be hf
                obtain ⟨v43, hv, hf⟩ := hf
                refine zv_len zq_256 zo_256 rfl hv ?_
                refine zv_p (k := 1) (f' := (421, [(0, .ref p0), (2, .int p1), (3, .ref p2), (5, .ref p3), (8, .ref p4), (9, .int p5), (10, .int p6), (11, .int p7)], [.ref p4, .int v43, .int v40])) zq_256 zo_256 (by with_unfolding_all rfl) ?_
                replace hf := zf_b2e hf
                obtain ⟨v44, h45, hv, hf⟩ := hf
                refine zv_c zq_256 zo_256 rfl rfl rfl rfl rfl rfl (t_f_ColumnVaultLaw_size _ _ _ _ hv) ?_
                refine zv_p (k := 1) (f' := (425, [(0, .ref p0), (2, .int p1), (3, .ref p2), (5, .ref p3), (8, .ref p4), (9, .int p5), (10, .int p6), (11, .int p7)], [.int (v43 - v44), .int v40])) zq_256 zo_256 (by with_unfolding_all rfl) ?_
                replace hf := zf_ite hf
                obtain ⟨hc, hf⟩ | ⟨hc, hf⟩ := hf
                · refine zv_brT (off := 7) (tt := 432) (r := []) zq_256 zo_256 hc rfl rfl rfl ?_
                  refine zv_p (k := 1) (f' := (433, [(0, .ref p0), (2, .int p1), (3, .ref p2), (5, .ref p3), (8, .ref p4), (9, .int p5), (10, .int p6), (11, .int p7)], [.int (0 : Int32)])) zq_256 zo_256 (by with_unfolding_all rfl) ?_
                  cases hf
                  exact zv_rn zq_256 zo_256 rfl rfl
                · refine zv_brF (off := 7) (tt := 432) (r := []) zq_256 zo_256 hc rfl rfl rfl ?_
                  refine zv_p (k := 2) (f' := (433, [(0, .ref p0), (2, .int p1), (3, .ref p2), (5, .ref p3), (8, .ref p4), (9, .int p5), (10, .int p6), (11, .int p7)], [.int (1 : Int32)])) zq_256 zo_256 (by with_unfolding_all rfl) ?_
                  cases hf
                  exact zv_rn zq_256 zo_256 rfl rfl
          · refine zv_brF (off := 5) (tt := 346) (r := []) zq_256 zo_256 hc rfl rfl rfl ?_
            refine zv_p (k := 1) (f' := (345, [(0, .ref p0), (2, .int p1), (3, .ref p2), (5, .ref p3), (8, .ref p4), (9, .int p5), (10, .int p6), (11, .int p7)], [.int (0 : Int32)])) zq_256 zo_256 (by with_unfolding_all rfl) ?_
            cases hf
            exact zv_rn zq_256 zo_256 rfl rfl
    · refine zv_brF (off := 108) (tt := 305) (r := []) zq_256 zo_256 hc rfl rfl rfl ?_
      refine zv_p (k := 3) (f' := (206, [(0, .ref p0), (2, .int p1), (3, .ref p2), (5, .ref p3), (8, .ref p4), (9, .int p5), (10, .int p6), (11, .int p7)], [.int p5, .int p7, .ref p4])) zq_256 zo_256 (by with_unfolding_all rfl) ?_
      replace hf := zf_ite hf
      obtain ⟨hc, hf⟩ | ⟨hc, hf⟩ := hf
      · refine zv_brT (off := 11) (tt := 217) (r := [.int p7, .ref p4]) zq_256 zo_256 hc rfl rfl rfl ?_
        refine zv_p (k := 2) (f' := (220, [(0, .ref p0), (2, .int p1), (3, .ref p2), (5, .ref p3), (8, .ref p4), (9, .int p5), (10, .int p6), (11, .int p7)], [.int (1 : Int32), .int p5, .int p7, .ref p4])) zq_256 zo_256 (by with_unfolding_all rfl) ?_
        replace hf := zf_ite hf
        obtain ⟨hc, hf⟩ | ⟨hc, hf⟩ := hf
        · refine zv_brT (off := 27) (tt := 247) (r := [.int p7, .ref p4]) zq_256 zo_256 hc rfl rfl rfl ?_
          refine zv_p (k := 2) (f' := (250, [(0, .ref p0), (2, .int p1), (3, .ref p2), (5, .ref p3), (8, .ref p4), (9, .int p5), (10, .int p6), (11, .int p7)], [.int (2 : Int32), .int p5, .int p7, .ref p4])) zq_256 zo_256 (by with_unfolding_all rfl) ?_
          replace hf := zf_ite hf
          obtain ⟨hc, hf⟩ | ⟨hc, hf⟩ := hf
          · refine zv_brT (off := 27) (tt := 277) (r := [.int p7, .ref p4]) zq_256 zo_256 hc rfl rfl rfl ?_
            refine zv_p (k := 2) (f' := (281, [(0, .ref p0), (2, .int p1), (3, .ref p2), (5, .ref p3), (8, .ref p4), (9, .int p5), (10, .int p6), (11, .int p7)], [.int p7, .ref p4, .int p7, .ref p4])) zq_256 zo_256 (by with_unfolding_all rfl) ?_
            replace hf := zf_be hf
            obtain ⟨v46, hv, hf⟩ := hf
            refine zv_ldB zq_256 zo_256 rfl hv ?_
            replace hf := zf_ite hf
            obtain ⟨hc, hf⟩ | ⟨hc, hf⟩ := hf
            · refine zv_brT (off := 15) (tt := 297) (r := [.int p7, .ref p4]) zq_256 zo_256 hc rfl rfl rfl ?_
              refine zv_p (k := 1) (f' := (298, [(0, .ref p0), (2, .int p1), (3, .ref p2), (5, .ref p3), (8, .ref p4), (9, .int p5), (10, .int p6), (11, .int p7)], [.int (0 : Int32), .int p7, .ref p4])) zq_256 zo_256 (by with_unfolding_all rfl) ?_
              replace hf := zf_be hf
              obtain ⟨h47, hv, hf⟩ := hf
              refine zv_stB zq_256 zo_256 rfl hv ?_
              refine zv_p (k := 2) (f' := (192, [(11, .int (p7 + (1 : Int32))), (0, .ref p0), (2, .int p1), (3, .ref p2), (5, .ref p3), (8, .ref p4), (9, .int p5), (10, .int p6)], [])) zq_256 zo_256 (by with_unfolding_all rfl) ?_
              refine zv_pick (lv' := [(0, .ref p0), (2, .int p1), (3, .ref p2), (5, .ref p3), (8, .ref p4), (9, .int p5), (10, .int p6), (11, .int (p7 + (1 : Int32)))]) [0, 2, 3, 5, 8, 9, 10, 11] rfl rfl ?_
              exact ih _ _ _ _ _ _ _ _ _ _ _ hf
            · refine zv_brF (off := 15) (tt := 297) (r := [.int p7, .ref p4]) zq_256 zo_256 hc rfl rfl rfl ?_
              refine zv_p (k := 2) (f' := (289, [(0, .ref p0), (2, .int p1), (3, .ref p2), (5, .ref p3), (8, .ref p4), (9, .int p5), (10, .int p6), (11, .int p7)], [.int p7, .ref p3, .int p7, .ref p4])) zq_256 zo_256 (by with_unfolding_all rfl) ?_
              replace hf := zf_be hf
              obtain ⟨v48, hv, hf⟩ := hf
              refine zv_ldB zq_256 zo_256 rfl hv ?_
              replace hf := zf_ite hf
              obtain ⟨hc, hf⟩ | ⟨hc, hf⟩ := hf
              · refine zv_brT (off := 7) (tt := 297) (r := [.int p7, .ref p4]) zq_256 zo_256 hc rfl rfl rfl ?_
                refine zv_p (k := 1) (f' := (298, [(0, .ref p0), (2, .int p1), (3, .ref p2), (5, .ref p3), (8, .ref p4), (9, .int p5), (10, .int p6), (11, .int p7)], [.int (0 : Int32), .int p7, .ref p4])) zq_256 zo_256 (by with_unfolding_all rfl) ?_
                replace hf := zf_be hf
                obtain ⟨h49, hv, hf⟩ := hf
                refine zv_stB zq_256 zo_256 rfl hv ?_
                refine zv_p (k := 2) (f' := (192, [(11, .int (p7 + (1 : Int32))), (0, .ref p0), (2, .int p1), (3, .ref p2), (5, .ref p3), (8, .ref p4), (9, .int p5), (10, .int p6)], [])) zq_256 zo_256 (by with_unfolding_all rfl) ?_
                refine zv_pick (lv' := [(0, .ref p0), (2, .int p1), (3, .ref p2), (5, .ref p3), (8, .ref p4), (9, .int p5), (10, .int p6), (11, .int (p7 + (1 : Int32)))]) [0, 2, 3, 5, 8, 9, 10, 11] rfl rfl ?_
                exact ih _ _ _ _ _ _ _ _ _ _ _ hf
              · refine zv_brF (off := 7) (tt := 297) (r := [.int p7, .ref p4]) zq_256 zo_256 hc rfl rfl rfl ?_
                refine zv_p (k := 2) (f' := (298, [(0, .ref p0), (2, .int p1), (3, .ref p2), (5, .ref p3), (8, .ref p4), (9, .int p5), (10, .int p6), (11, .int p7)], [.int (1 : Int32), .int p7, .ref p4])) zq_256 zo_256 (by with_unfolding_all rfl) ?_
                replace hf := zf_be hf
                obtain ⟨h50, hv, hf⟩ := hf
                refine zv_stB zq_256 zo_256 rfl hv ?_
                refine zv_p (k := 2) (f' := (192, [(11, .int (p7 + (1 : Int32))), (0, .ref p0), (2, .int p1), (3, .ref p2), (5, .ref p3), (8, .ref p4), (9, .int p5), (10, .int p6)], [])) zq_256 zo_256 (by with_unfolding_all rfl) ?_
                refine zv_pick (lv' := [(0, .ref p0), (2, .int p1), (3, .ref p2), (5, .ref p3), (8, .ref p4), (9, .int p5), (10, .int p6), (11, .int (p7 + (1 : Int32)))]) [0, 2, 3, 5, 8, 9, 10, 11] rfl rfl ?_
                exact ih _ _ _ _ _ _ _ _ _ _ _ hf
          · refine zv_brF (off := 27) (tt := 277) (r := [.int p7, .ref p4]) zq_256 zo_256 hc rfl rfl rfl ?_
            refine zv_p (k := 2) (f' := (257, [(0, .ref p0), (2, .int p1), (3, .ref p2), (5, .ref p3), (8, .ref p4), (9, .int p5), (10, .int p6), (11, .int p7)], [.int p7, .ref p4, .int p7, .ref p4])) zq_256 zo_256 (by with_unfolding_all rfl) ?_
            replace hf := zf_be hf
            obtain ⟨v51, hv, hf⟩ := hf
            refine zv_ldB zq_256 zo_256 rfl hv ?_
            replace hf := zf_ite hf
            obtain ⟨hc, hf⟩ | ⟨hc, hf⟩ := hf
            · refine zv_brT (off := 11) (tt := 269) (r := [.int p7, .ref p4]) zq_256 zo_256 hc rfl rfl rfl ?_
              refine zv_p (k := 2) (f' := (298, [(0, .ref p0), (2, .int p1), (3, .ref p2), (5, .ref p3), (8, .ref p4), (9, .int p5), (10, .int p6), (11, .int p7)], [.int (1 : Int32), .int p7, .ref p4])) zq_256 zo_256 (by with_unfolding_all rfl) ?_
              replace hf := zf_be hf
              obtain ⟨h52, hv, hf⟩ := hf
              refine zv_stB zq_256 zo_256 rfl hv ?_
              refine zv_p (k := 2) (f' := (192, [(11, .int (p7 + (1 : Int32))), (0, .ref p0), (2, .int p1), (3, .ref p2), (5, .ref p3), (8, .ref p4), (9, .int p5), (10, .int p6)], [])) zq_256 zo_256 (by with_unfolding_all rfl) ?_
              refine zv_pick (lv' := [(0, .ref p0), (2, .int p1), (3, .ref p2), (5, .ref p3), (8, .ref p4), (9, .int p5), (10, .int p6), (11, .int (p7 + (1 : Int32)))]) [0, 2, 3, 5, 8, 9, 10, 11] rfl rfl ?_
              exact ih _ _ _ _ _ _ _ _ _ _ _ hf
            · refine zv_brF (off := 11) (tt := 269) (r := [.int p7, .ref p4]) zq_256 zo_256 hc rfl rfl rfl ?_
              refine zv_p (k := 2) (f' := (265, [(0, .ref p0), (2, .int p1), (3, .ref p2), (5, .ref p3), (8, .ref p4), (9, .int p5), (10, .int p6), (11, .int p7)], [.int p7, .ref p3, .int p7, .ref p4])) zq_256 zo_256 (by with_unfolding_all rfl) ?_
              replace hf := zf_be hf
              obtain ⟨v53, hv, hf⟩ := hf
              refine zv_ldB zq_256 zo_256 rfl hv ?_
              replace hf := zf_ite hf
              obtain ⟨hc, hf⟩ | ⟨hc, hf⟩ := hf
              · refine zv_brT (off := 7) (tt := 273) (r := [.int p7, .ref p4]) zq_256 zo_256 hc rfl rfl rfl ?_
                refine zv_p (k := 2) (f' := (298, [(0, .ref p0), (2, .int p1), (3, .ref p2), (5, .ref p3), (8, .ref p4), (9, .int p5), (10, .int p6), (11, .int p7)], [.int (0 : Int32), .int p7, .ref p4])) zq_256 zo_256 (by with_unfolding_all rfl) ?_
                replace hf := zf_be hf
                obtain ⟨h54, hv, hf⟩ := hf
                refine zv_stB zq_256 zo_256 rfl hv ?_
                refine zv_p (k := 2) (f' := (192, [(11, .int (p7 + (1 : Int32))), (0, .ref p0), (2, .int p1), (3, .ref p2), (5, .ref p3), (8, .ref p4), (9, .int p5), (10, .int p6)], [])) zq_256 zo_256 (by with_unfolding_all rfl) ?_
                refine zv_pick (lv' := [(0, .ref p0), (2, .int p1), (3, .ref p2), (5, .ref p3), (8, .ref p4), (9, .int p5), (10, .int p6), (11, .int (p7 + (1 : Int32)))]) [0, 2, 3, 5, 8, 9, 10, 11] rfl rfl ?_
                exact ih _ _ _ _ _ _ _ _ _ _ _ hf
              · refine zv_brF (off := 7) (tt := 273) (r := [.int p7, .ref p4]) zq_256 zo_256 hc rfl rfl rfl ?_
                refine zv_p (k := 2) (f' := (298, [(0, .ref p0), (2, .int p1), (3, .ref p2), (5, .ref p3), (8, .ref p4), (9, .int p5), (10, .int p6), (11, .int p7)], [.int (1 : Int32), .int p7, .ref p4])) zq_256 zo_256 (by with_unfolding_all rfl) ?_
                replace hf := zf_be hf
                obtain ⟨h55, hv, hf⟩ := hf
                refine zv_stB zq_256 zo_256 rfl hv ?_
                refine zv_p (k := 2) (f' := (192, [(11, .int (p7 + (1 : Int32))), (0, .ref p0), (2, .int p1), (3, .ref p2), (5, .ref p3), (8, .ref p4), (9, .int p5), (10, .int p6)], [])) zq_256 zo_256 (by with_unfolding_all rfl) ?_
                refine zv_pick (lv' := [(0, .ref p0), (2, .int p1), (3, .ref p2), (5, .ref p3), (8, .ref p4), (9, .int p5), (10, .int p6), (11, .int (p7 + (1 : Int32)))]) [0, 2, 3, 5, 8, 9, 10, 11] rfl rfl ?_
                exact ih _ _ _ _ _ _ _ _ _ _ _ hf
        · refine zv_brF (off := 27) (tt := 247) (r := [.int p7, .ref p4]) zq_256 zo_256 hc rfl rfl rfl ?_
          refine zv_p (k := 2) (f' := (227, [(0, .ref p0), (2, .int p1), (3, .ref p2), (5, .ref p3), (8, .ref p4), (9, .int p5), (10, .int p6), (11, .int p7)], [.int p7, .ref p4, .int p7, .ref p4])) zq_256 zo_256 (by with_unfolding_all rfl) ?_
          replace hf := zf_be hf
          obtain ⟨v56, hv, hf⟩ := hf
          refine zv_ldB zq_256 zo_256 rfl hv ?_
          replace hf := zf_ite hf
          obtain ⟨hc, hf⟩ | ⟨hc, hf⟩ := hf
          · refine zv_brT (off := 15) (tt := 243) (r := [.int p7, .ref p4]) zq_256 zo_256 hc rfl rfl rfl ?_
            refine zv_p (k := 2) (f' := (298, [(0, .ref p0), (2, .int p1), (3, .ref p2), (5, .ref p3), (8, .ref p4), (9, .int p5), (10, .int p6), (11, .int p7)], [.int (0 : Int32), .int p7, .ref p4])) zq_256 zo_256 (by with_unfolding_all rfl) ?_
            replace hf := zf_be hf
            obtain ⟨h57, hv, hf⟩ := hf
            refine zv_stB zq_256 zo_256 rfl hv ?_
            refine zv_p (k := 2) (f' := (192, [(11, .int (p7 + (1 : Int32))), (0, .ref p0), (2, .int p1), (3, .ref p2), (5, .ref p3), (8, .ref p4), (9, .int p5), (10, .int p6)], [])) zq_256 zo_256 (by with_unfolding_all rfl) ?_
            refine zv_pick (lv' := [(0, .ref p0), (2, .int p1), (3, .ref p2), (5, .ref p3), (8, .ref p4), (9, .int p5), (10, .int p6), (11, .int (p7 + (1 : Int32)))]) [0, 2, 3, 5, 8, 9, 10, 11] rfl rfl ?_
            exact ih _ _ _ _ _ _ _ _ _ _ _ hf
          · refine zv_brF (off := 15) (tt := 243) (r := [.int p7, .ref p4]) zq_256 zo_256 hc rfl rfl rfl ?_
            refine zv_p (k := 2) (f' := (235, [(0, .ref p0), (2, .int p1), (3, .ref p2), (5, .ref p3), (8, .ref p4), (9, .int p5), (10, .int p6), (11, .int p7)], [.int p7, .ref p3, .int p7, .ref p4])) zq_256 zo_256 (by with_unfolding_all rfl) ?_
            replace hf := zf_be hf
            obtain ⟨v58, hv, hf⟩ := hf
            refine zv_ldB zq_256 zo_256 rfl hv ?_
            replace hf := zf_ite hf
            obtain ⟨hc, hf⟩ | ⟨hc, hf⟩ := hf
            · refine zv_brT (off := 7) (tt := 243) (r := [.int p7, .ref p4]) zq_256 zo_256 hc rfl rfl rfl ?_
              refine zv_p (k := 2) (f' := (298, [(0, .ref p0), (2, .int p1), (3, .ref p2), (5, .ref p3), (8, .ref p4), (9, .int p5), (10, .int p6), (11, .int p7)], [.int (0 : Int32), .int p7, .ref p4])) zq_256 zo_256 (by with_unfolding_all rfl) ?_
              replace hf := zf_be hf
              obtain ⟨h59, hv, hf⟩ := hf
              refine zv_stB zq_256 zo_256 rfl hv ?_
              refine zv_p (k := 2) (f' := (192, [(11, .int (p7 + (1 : Int32))), (0, .ref p0), (2, .int p1), (3, .ref p2), (5, .ref p3), (8, .ref p4), (9, .int p5), (10, .int p6)], [])) zq_256 zo_256 (by with_unfolding_all rfl) ?_
              refine zv_pick (lv' := [(0, .ref p0), (2, .int p1), (3, .ref p2), (5, .ref p3), (8, .ref p4), (9, .int p5), (10, .int p6), (11, .int (p7 + (1 : Int32)))]) [0, 2, 3, 5, 8, 9, 10, 11] rfl rfl ?_
              exact ih _ _ _ _ _ _ _ _ _ _ _ hf
            · refine zv_brF (off := 7) (tt := 243) (r := [.int p7, .ref p4]) zq_256 zo_256 hc rfl rfl rfl ?_
              refine zv_p (k := 2) (f' := (298, [(0, .ref p0), (2, .int p1), (3, .ref p2), (5, .ref p3), (8, .ref p4), (9, .int p5), (10, .int p6), (11, .int p7)], [.int (1 : Int32), .int p7, .ref p4])) zq_256 zo_256 (by with_unfolding_all rfl) ?_
              replace hf := zf_be hf
              obtain ⟨h60, hv, hf⟩ := hf
              refine zv_stB zq_256 zo_256 rfl hv ?_
              refine zv_p (k := 2) (f' := (192, [(11, .int (p7 + (1 : Int32))), (0, .ref p0), (2, .int p1), (3, .ref p2), (5, .ref p3), (8, .ref p4), (9, .int p5), (10, .int p6)], [])) zq_256 zo_256 (by with_unfolding_all rfl) ?_
              refine zv_pick (lv' := [(0, .ref p0), (2, .int p1), (3, .ref p2), (5, .ref p3), (8, .ref p4), (9, .int p5), (10, .int p6), (11, .int (p7 + (1 : Int32)))]) [0, 2, 3, 5, 8, 9, 10, 11] rfl rfl ?_
              exact ih _ _ _ _ _ _ _ _ _ _ _ hf
      · refine zv_brF (off := 11) (tt := 217) (r := [.int p7, .ref p4]) zq_256 zo_256 hc rfl rfl rfl ?_
        refine zv_p (k := 2) (f' := (213, [(0, .ref p0), (2, .int p1), (3, .ref p2), (5, .ref p3), (8, .ref p4), (9, .int p5), (10, .int p6), (11, .int p7)], [.int p7, .ref p3, .int p7, .ref p4])) zq_256 zo_256 (by with_unfolding_all rfl) ?_
        replace hf := zf_be hf
        obtain ⟨v61, hv, hf⟩ := hf
        refine zv_ldB zq_256 zo_256 rfl hv ?_
        refine zv_p (k := 1) (f' := (298, [(0, .ref p0), (2, .int p1), (3, .ref p2), (5, .ref p3), (8, .ref p4), (9, .int p5), (10, .int p6), (11, .int p7)], [.int v61, .int p7, .ref p4])) zq_256 zo_256 (by with_unfolding_all rfl) ?_
        replace hf := zf_be hf
        obtain ⟨h62, hv, hf⟩ := hf
        refine zv_stB zq_256 zo_256 rfl hv ?_
        refine zv_p (k := 2) (f' := (192, [(11, .int (p7 + (1 : Int32))), (0, .ref p0), (2, .int p1), (3, .ref p2), (5, .ref p3), (8, .ref p4), (9, .int p5), (10, .int p6)], [])) zq_256 zo_256 (by with_unfolding_all rfl) ?_
        refine zv_pick (lv' := [(0, .ref p0), (2, .int p1), (3, .ref p2), (5, .ref p3), (8, .ref p4), (9, .int p5), (10, .int p6), (11, .int (p7 + (1 : Int32)))]) [0, 2, 3, 5, 8, 9, 10, 11] rfl rfl ?_
        exact ih _ _ _ _ _ _ _ _ _ _ _ hf
set_option maxHeartbeats 1000000 in
def f_ColumnVaultLaw_isFilter_169 (p0 : Nat) (p1 : Nat) (p2 : Int32) (p3 : Nat) (p4 : Nat) (h : zx_H) : Option ((Int32 ⊕ Nat) × zx_H) :=
  zf_b3 (f_ColumnVaultLaw_choice p0 p2 h) fun v1 h2 =>
  zf_b2 (f_ColumnVaultLaw_draw p1 (4 : Int32) h2) fun v4 h5 =>
  zf_b (zf_is 12 p0 h5) fun _ =>
  zf_b2 (f_ColumnVault_version p0 h5) fun v6 h7 =>
  f_ColumnVaultLaw_isFilter_192 zF p0 p2 p3 p4 v1 v4 v6 (0 : Int32) h7
set_option maxHeartbeats 4000000 in
set_option maxRecDepth 400000 in
theorem t_f_ColumnVaultLaw_isFilter_169 {sc : (Nat × (Nat → Int32)) × Bool} {d : Nat} (p0 : Nat) (p1 : Nat) (p2 : Int32) (p3 : Nat) (p4 : Nat) (h : zx_H) (r : (Int32 ⊕ Nat)) (h' : zx_H) (hf : f_ColumnVaultLaw_isFilter_169 p0 p1 p2 p3 p4 h = some (r, h')) : zx_T sc (d + 187) 256 (169, [(0, .ref p0), (1, .ref p1), (2, .int p2), (3, .ref p3), (5, .ref p4)], []) h (zf_oIx r) h' := by
  unfold f_ColumnVaultLaw_isFilter_169 at hf
  refine zv_p (k := 2) (f' := (171, [(0, .ref p0), (1, .ref p1), (2, .int p2), (3, .ref p3), (5, .ref p4)], [.int p2, .ref p0])) zq_256 zo_256 (by with_unfolding_all rfl) ?_
  replace hf := zf_b3e hf
  obtain ⟨v1, h2, hv, hf⟩ | ⟨E3, h2, hv, hf⟩ := hf
  rotate_left
  · cases hf; exact zv_cx zq_256 zo_256 rfl rfl rfl rfl rfl rfl (t_f_ColumnVaultLaw_choice _ _ _ _ _ hv) rfl
  refine zv_c zq_256 zo_256 rfl rfl rfl rfl rfl rfl (t_f_ColumnVaultLaw_choice _ _ _ _ _ hv) ?_
  refine zv_p (k := 3) (f' := (178, [(8, .ref v1), (0, .ref p0), (1, .ref p1), (2, .int p2), (3, .ref p3), (5, .ref p4)], [.int (4 : Int32), .ref p1])) zq_256 zo_256 (by with_unfolding_all rfl) ?_
  replace hf := zf_b2e hf
  obtain ⟨v4, h5, hv, hf⟩ := hf
  refine zv_c zq_256 zo_256 rfl rfl rfl rfl rfl rfl (t_f_ColumnVaultLaw_draw _ _ _ _ _ hv) ?_
  refine zv_p (k := 2) (f' := (184, [(9, .int v4), (8, .ref v1), (0, .ref p0), (1, .ref p1), (2, .int p2), (3, .ref p3), (5, .ref p4)], [.ref p0])) zq_256 zo_256 (by with_unfolding_all rfl) ?_
  replace hf := zf_be hf
  obtain ⟨_, ho, hf⟩ := hf
  replace hf := zf_b2e hf
  obtain ⟨v6, h7, hv, hf⟩ := hf
  refine zv_c zq_256 zo_256 rfl rfl rfl rfl rfl (zv_cv rfl rfl rfl (zf_ise ho) rfl) (t_f_ColumnVault_version _ _ _ _ hv) ?_
  refine zv_p (k := 3) (f' := (192, [(11, .int (0 : Int32)), (10, .int v6), (9, .int v4), (8, .ref v1), (0, .ref p0), (1, .ref p1), (2, .int p2), (3, .ref p3), (5, .ref p4)], [])) zq_256 zo_256 (by with_unfolding_all rfl) ?_
  refine zv_pick (lv' := [(0, .ref p0), (2, .int p2), (3, .ref p3), (5, .ref p4), (8, .ref v1), (9, .int v4), (10, .int v6), (11, .int (0 : Int32))]) [0, 2, 3, 5, 8, 9, 10, 11] rfl rfl ?_
  exact t_f_ColumnVaultLaw_isFilter_192 zF _ _ _ _ _ _ _ _ _ _ _ hf
