set_option maxHeartbeats 1000000 in
def f_ColumnVaultLaw_asks (p0 : Nat) (p1 : Int32) (p2 : Int32) (p3 : Int32) (p4 : Int64) (h : zx_H) : Option (Int64 × zx_H) :=
  if p1 = (0 : Int32) then
    zf_b (zf_is 12 p0 h) fun _ =>
    zf_b4 (f_ColumnVault_addColumn p0 p2 p3 h) (fun v1 h2 =>
      some ((v1).toInt64, h2)
    ) fun E3 h2 =>
      if E3 = 13 then
        some ((-3000000001 : Int64), h2)
      else if E3 = 16 then
        some ((-3000000002 : Int64), h2)
      else if E3 = 14 then
        some ((-3000000003 : Int64), h2)
      else if E3 = 15 then
        some ((-3000000004 : Int64), h2)
      else none
  else if p1 = (1 : Int32) then
    zf_b (zf_is 12 p0 h) fun _ =>
    zf_b4 (f_ColumnVault_addRow p0 p2 h) (fun v4 h5 =>
      some ((v4).toInt64, h5)
    ) fun E6 h5 =>
      if E6 = 13 then
        some ((-3000000001 : Int64), h5)
      else if E6 = 16 then
        some ((-3000000002 : Int64), h5)
      else if E6 = 14 then
        some ((-3000000003 : Int64), h5)
      else if E6 = 15 then
        some ((-3000000004 : Int64), h5)
      else none
  else if p1 = (2 : Int32) then
    zf_b (zf_is 12 p0 h) fun _ =>
    zf_b4 (f_ColumnVault_fill p0 p2 p3 ((p4).toInt32) (7 : Int32) (3 : Int32) h) (fun v7 h8 =>
      some ((v7).toInt64, h8)
    ) fun E9 h8 =>
      if E9 = 13 then
        some ((-3000000001 : Int64), h8)
      else if E9 = 16 then
        some ((-3000000002 : Int64), h8)
      else if E9 = 14 then
        some ((-3000000003 : Int64), h8)
      else if E9 = 15 then
        some ((-3000000004 : Int64), h8)
      else none
  else if p1 = (3 : Int32) then
    zf_b (zf_is 12 p0 h) fun _ =>
    zf_b4 (f_ColumnVault_set p0 p2 (0 : Int32) p3 p4 h) (fun v10 h11 =>
      if v10 = 0 then
        some ((0 : Int64), h11)
      else
        some ((1 : Int64), h11)
    ) fun E12 h11 =>
      if E12 = 13 then
        some ((-3000000001 : Int64), h11)
      else if E12 = 16 then
        some ((-3000000002 : Int64), h11)
      else if E12 = 14 then
        some ((-3000000003 : Int64), h11)
      else if E12 = 15 then
        some ((-3000000004 : Int64), h11)
      else none
  else if p1 = (4 : Int32) then
    zf_b (zf_is 12 p0 h) fun _ =>
    zf_b4 (f_ColumnVault_get p0 p2 p3 ((p4).toInt32) h) (fun v13 h14 =>
      some (v13, h14)
    ) fun E15 h14 =>
      if E15 = 13 then
        some ((-3000000001 : Int64), h14)
      else if E15 = 16 then
        some ((-3000000002 : Int64), h14)
      else if E15 = 14 then
        some ((-3000000003 : Int64), h14)
      else if E15 = 15 then
        some ((-3000000004 : Int64), h14)
      else none
  else if p1 = (5 : Int32) then
    zf_b (zf_is 12 p0 h) fun _ =>
    zf_b4 (f_ColumnVault_back p0 p2 h) (fun v16 h17 =>
      some ((v16).toInt64, h17)
    ) fun E18 h17 =>
      if E18 = 13 then
        some ((-3000000001 : Int64), h17)
      else if E18 = 16 then
        some ((-3000000002 : Int64), h17)
      else if E18 = 14 then
        some ((-3000000003 : Int64), h17)
      else if E18 = 15 then
        some ((-3000000004 : Int64), h17)
      else none
  else if p1 = (6 : Int32) then
    zf_b (zf_is 12 p0 h) fun _ =>
    zf_b4 (f_ColumnVault_rowAt p0 p2 p3 h) (fun v19 h20 =>
      some ((v19).toInt64, h20)
    ) fun E21 h20 =>
      if E21 = 13 then
        some ((-3000000001 : Int64), h20)
      else if E21 = 16 then
        some ((-3000000002 : Int64), h20)
      else if E21 = 14 then
        some ((-3000000003 : Int64), h20)
      else if E21 = 15 then
        some ((-3000000004 : Int64), h20)
      else none
  else if p1 = (7 : Int32) then
    zf_b (zf_is 12 p0 h) fun _ =>
    zf_b4 (f_ColumnVault_choose p0 p2 p3 h) (fun v22 h23 =>
      some ((v22).toInt64, h23)
    ) fun E24 h23 =>
      if E24 = 13 then
        some ((-3000000001 : Int64), h23)
      else if E24 = 16 then
        some ((-3000000002 : Int64), h23)
      else if E24 = 14 then
        some ((-3000000003 : Int64), h23)
      else if E24 = 15 then
        some ((-3000000004 : Int64), h23)
      else none
  else if p1 = (8 : Int32) then
    zf_b (zf_is 12 p0 h) fun _ =>
    zf_b4 (f_ColumnVault_count p0 p2 h) (fun v25 h26 =>
      some ((v25).toInt64, h26)
    ) fun E27 h26 =>
      if E27 = 13 then
        some ((-3000000001 : Int64), h26)
      else if E27 = 16 then
        some ((-3000000002 : Int64), h26)
      else if E27 = 14 then
        some ((-3000000003 : Int64), h26)
      else if E27 = 15 then
        some ((-3000000004 : Int64), h26)
      else none
  else if p1 = (9 : Int32) then
    zf_b (zf_is 12 p0 h) fun _ =>
    zf_b4 (f_ColumnVault_join p0 p2 p3 p2 ((p4).toInt32) (0 : Int32) h) (fun v28 h29 =>
      some ((v28).toInt64, h29)
    ) fun E30 h29 =>
      if E30 = 13 then
        some ((-3000000001 : Int64), h29)
      else if E30 = 16 then
        some ((-3000000002 : Int64), h29)
      else if E30 = 14 then
        some ((-3000000003 : Int64), h29)
      else if E30 = 15 then
        some ((-3000000004 : Int64), h29)
      else none
  else if p1 = (10 : Int32) then
    zf_b (zf_is 12 p0 h) fun _ =>
    zf_b4 (f_ColumnVault_pairAt p0 p2 (0 : Int32) h) (fun v31 h32 =>
      some ((v31).toInt64, h32)
    ) fun E33 h32 =>
      if E33 = 13 then
        some ((-3000000001 : Int64), h32)
      else if E33 = 16 then
        some ((-3000000002 : Int64), h32)
      else if E33 = 14 then
        some ((-3000000003 : Int64), h32)
      else if E33 = 15 then
        some ((-3000000004 : Int64), h32)
      else none
  else if p1 = (11 : Int32) then
    zf_b (zf_is 12 p0 h) fun _ =>
    zf_b4 (f_ColumnVault_groupAt p0 p2 p3 h) (fun v34 h35 =>
      some (v34, h35)
    ) fun E36 h35 =>
      if E36 = 13 then
        some ((-3000000001 : Int64), h35)
      else if E36 = 16 then
        some ((-3000000002 : Int64), h35)
      else if E36 = 14 then
        some ((-3000000003 : Int64), h35)
      else if E36 = 15 then
        some ((-3000000004 : Int64), h35)
      else none
  else if p1 = (12 : Int32) then
    zf_b (zf_is 12 p0 h) fun _ =>
    zf_b4 (f_ColumnVault_total p0 p2 p3 ((p4).toInt32) h) (fun v37 h38 =>
      some (v37, h38)
    ) fun E39 h38 =>
      if E39 = 13 then
        some ((-3000000001 : Int64), h38)
      else if E39 = 16 then
        some ((-3000000002 : Int64), h38)
      else if E39 = 14 then
        some ((-3000000003 : Int64), h38)
      else if E39 = 15 then
        some ((-3000000004 : Int64), h38)
      else none
  else if p1 = (13 : Int32) then
    zf_b (zf_is 12 p0 h) fun _ =>
    zf_b4 (f_ColumnVault_rank p0 p2 p3 p3 ((p4).toInt32) h) (fun v40 h41 =>
      some ((v40).toInt64, h41)
    ) fun E42 h41 =>
      if E42 = 13 then
        some ((-3000000001 : Int64), h41)
      else if E42 = 16 then
        some ((-3000000002 : Int64), h41)
      else if E42 = 14 then
        some ((-3000000003 : Int64), h41)
      else if E42 = 15 then
        some ((-3000000004 : Int64), h41)
      else none
  else if p1 = (14 : Int32) then
    zf_b (zf_is 12 p0 h) fun _ =>
    zf_b4 (f_ColumnVault_between p0 p2 p3 p4 p4 h) (fun v43 h44 =>
      some ((v43).toInt64, h44)
    ) fun E45 h44 =>
      if E45 = 13 then
        some ((-3000000001 : Int64), h44)
      else if E45 = 16 then
        some ((-3000000002 : Int64), h44)
      else if E45 = 14 then
        some ((-3000000003 : Int64), h44)
      else if E45 = 15 then
        some ((-3000000004 : Int64), h44)
      else none
  else if p1 = (15 : Int32) then
    zf_b (zf_is 12 p0 h) fun _ =>
    zf_b4 (f_ColumnVault_nearest p0 p2 p3 p4 (1 : Int32) h) (fun v46 h47 =>
      some (v46, h47)
    ) fun E48 h47 =>
      if E48 = 13 then
        some ((-3000000001 : Int64), h47)
      else if E48 = 16 then
        some ((-3000000002 : Int64), h47)
      else if E48 = 14 then
        some ((-3000000003 : Int64), h47)
      else if E48 = 15 then
        some ((-3000000004 : Int64), h47)
      else none
  else if p1 = (16 : Int32) then
    zf_b (zf_is 12 p0 h) fun _ =>
    zf_b4 (f_ColumnVault_nearest p0 p2 p3 p4 (0 : Int32) h) (fun v49 h50 =>
      some (v49, h50)
    ) fun E51 h50 =>
      if E51 = 13 then
        some ((-3000000001 : Int64), h50)
      else if E51 = 16 then
        some ((-3000000002 : Int64), h50)
      else if E51 = 14 then
        some ((-3000000003 : Int64), h50)
      else if E51 = 15 then
        some ((-3000000004 : Int64), h50)
      else none
  else if p1 = (17 : Int32) then
    zf_b (zf_is 12 p0 h) fun _ =>
    zf_b4 (f_ColumnVault_type p0 p4 h) (fun v52 h53 =>
      some ((v52).toInt64, h53)
    ) fun E54 h53 =>
      if E54 = 13 then
        some ((-3000000001 : Int64), h53)
      else if E54 = 16 then
        some ((-3000000002 : Int64), h53)
      else if E54 = 14 then
        some ((-3000000003 : Int64), h53)
      else if E54 = 15 then
        some ((-3000000004 : Int64), h53)
      else none
  else if p1 = (18 : Int32) then
    zf_b (zf_is 12 p0 h) fun _ =>
    zf_b4 (f_ColumnVault_alike p0 p2 p3 ((p4).toInt32) h) (fun v55 h56 =>
      some ((v55).toInt64, h56)
    ) fun E57 h56 =>
      if E57 = 13 then
        some ((-3000000001 : Int64), h56)
      else if E57 = 16 then
        some ((-3000000002 : Int64), h56)
      else if E57 = 14 then
        some ((-3000000003 : Int64), h56)
      else if E57 = 15 then
        some ((-3000000004 : Int64), h56)
      else none
  else if p1 = (19 : Int32) then
    zf_b (zf_is 12 p0 h) fun _ =>
    zf_b4 (f_ColumnVault_groupTotal p0 p2 p3 ((p4).toInt32) h) (fun v58 h59 =>
      some (v58, h59)
    ) fun E60 h59 =>
      if E60 = 13 then
        some ((-3000000001 : Int64), h59)
      else if E60 = 16 then
        some ((-3000000002 : Int64), h59)
      else if E60 = 14 then
        some ((-3000000003 : Int64), h59)
      else if E60 = 15 then
        some ((-3000000004 : Int64), h59)
      else none
  else if p1 = (20 : Int32) then
    zf_b (zf_is 12 p0 h) fun _ =>
    zf_b4 (f_ColumnVault_running p0 p2 p3 ((p4).toInt32) h) (fun v61 h62 =>
      some (v61, h62)
    ) fun E63 h62 =>
      if E63 = 13 then
        some ((-3000000001 : Int64), h62)
      else if E63 = 16 then
        some ((-3000000002 : Int64), h62)
      else if E63 = 14 then
        some ((-3000000003 : Int64), h62)
      else if E63 = 15 then
        some ((-3000000004 : Int64), h62)
      else none
  else
    zf_b (zf_is 12 p0 h) fun _ =>
    zf_b4 (f_ColumnVault_size p0 p2 p3 h) (fun v64 h65 =>
      some ((v64).toInt64, h65)
    ) fun E66 h65 =>
      if E66 = 13 then
        some ((-3000000001 : Int64), h65)
      else if E66 = 16 then
        some ((-3000000002 : Int64), h65)
      else if E66 = 14 then
        some ((-3000000003 : Int64), h65)
      else if E66 = 15 then
        some ((-3000000004 : Int64), h65)
      else none
set_option maxHeartbeats 4000000 in
set_option maxRecDepth 400000 in
theorem t_f_ColumnVaultLaw_asks {sc : (Nat × (Nat → Int32)) × Bool} {d : Nat} (p0 : Nat) (p1 : Int32) (p2 : Int32) (p3 : Int32) (p4 : Int64) (h : zx_H) (r : Int64) (h' : zx_H) (hf : f_ColumnVaultLaw_asks p0 p1 p2 p3 p4 h = some (r, h')) : zx_T sc (d + 124) 21 (0, [(0, .ref p0), (1, .int p1), (2, .int p2), (3, .int p3), (4, .long p4)], []) h (zf_oJ r) h' := by
  unfold f_ColumnVaultLaw_asks at hf
  refine zv_p (k := 1) (f' := (1, [(0, .ref p0), (1, .int p1), (2, .int p2), (3, .int p3), (4, .long p4)], [.int p1])) zq_21 zo_21 (by with_unfolding_all rfl) ?_
  replace hf := zf_ite hf
  obtain ⟨hc, hf⟩ | ⟨hs0, hf⟩ := hf
  · refine zv_sw (f' := (100, [(0, .ref p0), (1, .int p1), (2, .int p2), (3, .int p3), (4, .long p4)], [])) zq_21 zo_21 rfl hc rfl ?_
    refine zv_p (k := 3) (f' := (103, [(0, .ref p0), (1, .int p1), (2, .int p2), (3, .int p3), (4, .long p4)], [.int p3, .int p2, .ref p0])) zq_21 zo_21 (by with_unfolding_all rfl) ?_
    replace hf := zf_be hf
    obtain ⟨_, ho, hf⟩ := hf
    replace hf := zf_b4e hf
    obtain ⟨v1, h2, hv, hf⟩ | ⟨E3, h2, hv, hf⟩ := hf
    · refine zv_c zq_21 zo_21 rfl rfl rfl rfl rfl (zv_cv rfl rfl rfl (zf_ise ho) rfl) (t_f_ColumnVault_addColumn _ _ _ _ _ _ hv) ?_
      refine zv_p (k := 1) (f' := (107, [(0, .ref p0), (1, .int p1), (2, .int p2), (3, .int p3), (4, .long p4)], [.long (v1).toInt64])) zq_21 zo_21 (by with_unfolding_all rfl) ?_
      cases hf
      exact zv_r zq_21 zo_21 rfl rfl rfl rfl rfl
    · skip
      replace hf := zf_ite hf
      obtain ⟨rfl, hf⟩ | ⟨hE0, hf⟩ := hf
      · refine zv_ca (f := (318, [(0, .ref p0), (1, .int p1), (2, .int p2), (3, .int p3), (4, .long p4)], [])) zq_21 zo_21 rfl rfl rfl rfl rfl (zv_cv rfl rfl rfl (zf_ise ho) rfl) (t_f_ColumnVault_addColumn _ _ _ _ _ _ hv) rfl rfl ?_
        refine zv_lng zq_21 zo_21 rfl rfl ?_
        cases hf
        exact zv_r zq_21 zo_21 rfl rfl rfl rfl rfl
      replace hf := zf_ite hf
      obtain ⟨rfl, hf⟩ | ⟨hE1, hf⟩ := hf
      · refine zv_ca (f := (324, [(0, .ref p0), (1, .int p1), (2, .int p2), (3, .int p3), (4, .long p4)], [])) zq_21 zo_21 rfl rfl rfl rfl rfl (zv_cv rfl rfl rfl (zf_ise ho) rfl) (t_f_ColumnVault_addColumn _ _ _ _ _ _ hv) rfl rfl ?_
        refine zv_lng zq_21 zo_21 rfl rfl ?_
        cases hf
        exact zv_r zq_21 zo_21 rfl rfl rfl rfl rfl
      replace hf := zf_ite hf
      obtain ⟨rfl, hf⟩ | ⟨hE2, hf⟩ := hf
      · refine zv_ca (f := (330, [(0, .ref p0), (1, .int p1), (2, .int p2), (3, .int p3), (4, .long p4)], [])) zq_21 zo_21 rfl rfl rfl rfl rfl (zv_cv rfl rfl rfl (zf_ise ho) rfl) (t_f_ColumnVault_addColumn _ _ _ _ _ _ hv) rfl rfl ?_
        refine zv_lng zq_21 zo_21 rfl rfl ?_
        cases hf
        exact zv_r zq_21 zo_21 rfl rfl rfl rfl rfl
      replace hf := zf_ite hf
      obtain ⟨rfl, hf⟩ | ⟨hE3, hf⟩ := hf
      · refine zv_ca (f := (336, [(0, .ref p0), (1, .int p1), (2, .int p2), (3, .int p3), (4, .long p4)], [])) zq_21 zo_21 rfl rfl rfl rfl rfl (zv_cv rfl rfl rfl (zf_ise ho) rfl) (t_f_ColumnVault_addColumn _ _ _ _ _ _ hv) rfl rfl ?_
        refine zv_lng zq_21 zo_21 rfl rfl ?_
        cases hf
        exact zv_r zq_21 zo_21 rfl rfl rfl rfl rfl
      cases hf
  replace hf := zf_ite hf
  obtain ⟨hc, hf⟩ | ⟨hs1, hf⟩ := hf
  · refine zv_sw (f' := (108, [(0, .ref p0), (1, .int p1), (2, .int p2), (3, .int p3), (4, .long p4)], [])) zq_21 zo_21 rfl hc rfl ?_
    refine zv_p (k := 2) (f' := (110, [(0, .ref p0), (1, .int p1), (2, .int p2), (3, .int p3), (4, .long p4)], [.int p2, .ref p0])) zq_21 zo_21 (by with_unfolding_all rfl) ?_
    replace hf := zf_be hf
    obtain ⟨_, ho, hf⟩ := hf
    replace hf := zf_b4e hf
    obtain ⟨v4, h5, hv, hf⟩ | ⟨E6, h5, hv, hf⟩ := hf
    · refine zv_c zq_21 zo_21 rfl rfl rfl rfl rfl (zv_cv rfl rfl rfl (zf_ise ho) rfl) (t_f_ColumnVault_addRow _ _ _ _ _ hv) ?_
      refine zv_p (k := 1) (f' := (114, [(0, .ref p0), (1, .int p1), (2, .int p2), (3, .int p3), (4, .long p4)], [.long (v4).toInt64])) zq_21 zo_21 (by with_unfolding_all rfl) ?_
      cases hf
      exact zv_r zq_21 zo_21 rfl rfl rfl rfl rfl
    · skip
      replace hf := zf_ite hf
      obtain ⟨rfl, hf⟩ | ⟨hE0, hf⟩ := hf
      · refine zv_ca (f := (318, [(0, .ref p0), (1, .int p1), (2, .int p2), (3, .int p3), (4, .long p4)], [])) zq_21 zo_21 rfl rfl rfl rfl rfl (zv_cv rfl rfl rfl (zf_ise ho) rfl) (t_f_ColumnVault_addRow _ _ _ _ _ hv) rfl rfl ?_
        refine zv_lng zq_21 zo_21 rfl rfl ?_
        cases hf
        exact zv_r zq_21 zo_21 rfl rfl rfl rfl rfl
      replace hf := zf_ite hf
      obtain ⟨rfl, hf⟩ | ⟨hE1, hf⟩ := hf
      · refine zv_ca (f := (324, [(0, .ref p0), (1, .int p1), (2, .int p2), (3, .int p3), (4, .long p4)], [])) zq_21 zo_21 rfl rfl rfl rfl rfl (zv_cv rfl rfl rfl (zf_ise ho) rfl) (t_f_ColumnVault_addRow _ _ _ _ _ hv) rfl rfl ?_
        refine zv_lng zq_21 zo_21 rfl rfl ?_
        cases hf
        exact zv_r zq_21 zo_21 rfl rfl rfl rfl rfl
      replace hf := zf_ite hf
      obtain ⟨rfl, hf⟩ | ⟨hE2, hf⟩ := hf
      · refine zv_ca (f := (330, [(0, .ref p0), (1, .int p1), (2, .int p2), (3, .int p3), (4, .long p4)], [])) zq_21 zo_21 rfl rfl rfl rfl rfl (zv_cv rfl rfl rfl (zf_ise ho) rfl) (t_f_ColumnVault_addRow _ _ _ _ _ hv) rfl rfl ?_
        refine zv_lng zq_21 zo_21 rfl rfl ?_
        cases hf
        exact zv_r zq_21 zo_21 rfl rfl rfl rfl rfl
      replace hf := zf_ite hf
      obtain ⟨rfl, hf⟩ | ⟨hE3, hf⟩ := hf
      · refine zv_ca (f := (336, [(0, .ref p0), (1, .int p1), (2, .int p2), (3, .int p3), (4, .long p4)], [])) zq_21 zo_21 rfl rfl rfl rfl rfl (zv_cv rfl rfl rfl (zf_ise ho) rfl) (t_f_ColumnVault_addRow _ _ _ _ _ hv) rfl rfl ?_
        refine zv_lng zq_21 zo_21 rfl rfl ?_
        cases hf
        exact zv_r zq_21 zo_21 rfl rfl rfl rfl rfl
      cases hf
  replace hf := zf_ite hf
  obtain ⟨hc, hf⟩ | ⟨hs2, hf⟩ := hf
  · refine zv_sw (f' := (115, [(0, .ref p0), (1, .int p1), (2, .int p2), (3, .int p3), (4, .long p4)], [])) zq_21 zo_21 rfl hc rfl ?_
    refine zv_p (k := 7) (f' := (124, [(0, .ref p0), (1, .int p1), (2, .int p2), (3, .int p3), (4, .long p4)], [.int (3 : Int32), .int (7 : Int32), .int (p4).toInt32, .int p3, .int p2, .ref p0])) zq_21 zo_21 (by with_unfolding_all rfl) ?_
    replace hf := zf_be hf
    obtain ⟨_, ho, hf⟩ := hf
    replace hf := zf_b4e hf
    obtain ⟨v7, h8, hv, hf⟩ | ⟨E9, h8, hv, hf⟩ := hf
    · refine zv_c zq_21 zo_21 rfl rfl rfl rfl rfl (zv_cv rfl rfl rfl (zf_ise ho) rfl) (t_f_ColumnVault_fill _ _ _ _ _ _ _ _ _ hv) ?_
      refine zv_p (k := 1) (f' := (128, [(0, .ref p0), (1, .int p1), (2, .int p2), (3, .int p3), (4, .long p4)], [.long (v7).toInt64])) zq_21 zo_21 (by with_unfolding_all rfl) ?_
      cases hf
      exact zv_r zq_21 zo_21 rfl rfl rfl rfl rfl
    · skip
      replace hf := zf_ite hf
      obtain ⟨rfl, hf⟩ | ⟨hE0, hf⟩ := hf
      · refine zv_ca (f := (318, [(0, .ref p0), (1, .int p1), (2, .int p2), (3, .int p3), (4, .long p4)], [])) zq_21 zo_21 rfl rfl rfl rfl rfl (zv_cv rfl rfl rfl (zf_ise ho) rfl) (t_f_ColumnVault_fill _ _ _ _ _ _ _ _ _ hv) rfl rfl ?_
        refine zv_lng zq_21 zo_21 rfl rfl ?_
        cases hf
        exact zv_r zq_21 zo_21 rfl rfl rfl rfl rfl
      replace hf := zf_ite hf
      obtain ⟨rfl, hf⟩ | ⟨hE1, hf⟩ := hf
      · refine zv_ca (f := (324, [(0, .ref p0), (1, .int p1), (2, .int p2), (3, .int p3), (4, .long p4)], [])) zq_21 zo_21 rfl rfl rfl rfl rfl (zv_cv rfl rfl rfl (zf_ise ho) rfl) (t_f_ColumnVault_fill _ _ _ _ _ _ _ _ _ hv) rfl rfl ?_
        refine zv_lng zq_21 zo_21 rfl rfl ?_
        cases hf
        exact zv_r zq_21 zo_21 rfl rfl rfl rfl rfl
      replace hf := zf_ite hf
      obtain ⟨rfl, hf⟩ | ⟨hE2, hf⟩ := hf
      · refine zv_ca (f := (330, [(0, .ref p0), (1, .int p1), (2, .int p2), (3, .int p3), (4, .long p4)], [])) zq_21 zo_21 rfl rfl rfl rfl rfl (zv_cv rfl rfl rfl (zf_ise ho) rfl) (t_f_ColumnVault_fill _ _ _ _ _ _ _ _ _ hv) rfl rfl ?_
        refine zv_lng zq_21 zo_21 rfl rfl ?_
        cases hf
        exact zv_r zq_21 zo_21 rfl rfl rfl rfl rfl
      replace hf := zf_ite hf
      obtain ⟨rfl, hf⟩ | ⟨hE3, hf⟩ := hf
      · refine zv_ca (f := (336, [(0, .ref p0), (1, .int p1), (2, .int p2), (3, .int p3), (4, .long p4)], [])) zq_21 zo_21 rfl rfl rfl rfl rfl (zv_cv rfl rfl rfl (zf_ise ho) rfl) (t_f_ColumnVault_fill _ _ _ _ _ _ _ _ _ hv) rfl rfl ?_
        refine zv_lng zq_21 zo_21 rfl rfl ?_
        cases hf
        exact zv_r zq_21 zo_21 rfl rfl rfl rfl rfl
      cases hf
  replace hf := zf_ite hf
  obtain ⟨hc, hf⟩ | ⟨hs3, hf⟩ := hf
  · refine zv_sw (f' := (129, [(0, .ref p0), (1, .int p1), (2, .int p2), (3, .int p3), (4, .long p4)], [])) zq_21 zo_21 rfl hc rfl ?_
    refine zv_p (k := 5) (f' := (135, [(0, .ref p0), (1, .int p1), (2, .int p2), (3, .int p3), (4, .long p4)], [.long p4, .int p3, .int (0 : Int32), .int p2, .ref p0])) zq_21 zo_21 (by with_unfolding_all rfl) ?_
    replace hf := zf_be hf
    obtain ⟨_, ho, hf⟩ := hf
    replace hf := zf_b4e hf
    obtain ⟨v10, h11, hv, hf⟩ | ⟨E12, h11, hv, hf⟩ := hf
    · refine zv_c zq_21 zo_21 rfl rfl rfl rfl rfl (zv_cv rfl rfl rfl (zf_ise ho) rfl) (t_f_ColumnVault_set _ _ _ _ _ _ _ _ hv) ?_
      replace hf := zf_ite hf
      obtain ⟨hc, hf⟩ | ⟨hc, hf⟩ := hf
      · refine zv_brT (off := 7) (tt := 145) (r := []) zq_21 zo_21 hc rfl rfl rfl ?_
        refine zv_p (k := 1) (f' := (146, [(0, .ref p0), (1, .int p1), (2, .int p2), (3, .int p3), (4, .long p4)], [.long (0 : Int64)])) zq_21 zo_21 (by with_unfolding_all rfl) ?_
        cases hf
        exact zv_r zq_21 zo_21 rfl rfl rfl rfl rfl
      · refine zv_brF (off := 7) (tt := 145) (r := []) zq_21 zo_21 hc rfl rfl rfl ?_
        refine zv_p (k := 2) (f' := (146, [(0, .ref p0), (1, .int p1), (2, .int p2), (3, .int p3), (4, .long p4)], [.long (1 : Int64)])) zq_21 zo_21 (by with_unfolding_all rfl) ?_
        cases hf
        exact zv_r zq_21 zo_21 rfl rfl rfl rfl rfl
    · skip
      replace hf := zf_ite hf
      obtain ⟨rfl, hf⟩ | ⟨hE0, hf⟩ := hf
      · refine zv_ca (f := (318, [(0, .ref p0), (1, .int p1), (2, .int p2), (3, .int p3), (4, .long p4)], [])) zq_21 zo_21 rfl rfl rfl rfl rfl (zv_cv rfl rfl rfl (zf_ise ho) rfl) (t_f_ColumnVault_set _ _ _ _ _ _ _ _ hv) rfl rfl ?_
        refine zv_lng zq_21 zo_21 rfl rfl ?_
        cases hf
        exact zv_r zq_21 zo_21 rfl rfl rfl rfl rfl
      replace hf := zf_ite hf
      obtain ⟨rfl, hf⟩ | ⟨hE1, hf⟩ := hf
      · refine zv_ca (f := (324, [(0, .ref p0), (1, .int p1), (2, .int p2), (3, .int p3), (4, .long p4)], [])) zq_21 zo_21 rfl rfl rfl rfl rfl (zv_cv rfl rfl rfl (zf_ise ho) rfl) (t_f_ColumnVault_set _ _ _ _ _ _ _ _ hv) rfl rfl ?_
        refine zv_lng zq_21 zo_21 rfl rfl ?_
        cases hf
        exact zv_r zq_21 zo_21 rfl rfl rfl rfl rfl
      replace hf := zf_ite hf
      obtain ⟨rfl, hf⟩ | ⟨hE2, hf⟩ := hf
      · refine zv_ca (f := (330, [(0, .ref p0), (1, .int p1), (2, .int p2), (3, .int p3), (4, .long p4)], [])) zq_21 zo_21 rfl rfl rfl rfl rfl (zv_cv rfl rfl rfl (zf_ise ho) rfl) (t_f_ColumnVault_set _ _ _ _ _ _ _ _ hv) rfl rfl ?_
        refine zv_lng zq_21 zo_21 rfl rfl ?_
        cases hf
        exact zv_r zq_21 zo_21 rfl rfl rfl rfl rfl
      replace hf := zf_ite hf
      obtain ⟨rfl, hf⟩ | ⟨hE3, hf⟩ := hf
      · refine zv_ca (f := (336, [(0, .ref p0), (1, .int p1), (2, .int p2), (3, .int p3), (4, .long p4)], [])) zq_21 zo_21 rfl rfl rfl rfl rfl (zv_cv rfl rfl rfl (zf_ise ho) rfl) (t_f_ColumnVault_set _ _ _ _ _ _ _ _ hv) rfl rfl ?_
        refine zv_lng zq_21 zo_21 rfl rfl ?_
        cases hf
        exact zv_r zq_21 zo_21 rfl rfl rfl rfl rfl
      cases hf
  replace hf := zf_ite hf
  obtain ⟨hc, hf⟩ | ⟨hs4, hf⟩ := hf
  · refine zv_sw (f' := (147, [(0, .ref p0), (1, .int p1), (2, .int p2), (3, .int p3), (4, .long p4)], [])) zq_21 zo_21 rfl hc rfl ?_
    refine zv_p (k := 5) (f' := (153, [(0, .ref p0), (1, .int p1), (2, .int p2), (3, .int p3), (4, .long p4)], [.int (p4).toInt32, .int p3, .int p2, .ref p0])) zq_21 zo_21 (by with_unfolding_all rfl) ?_
    replace hf := zf_be hf
    obtain ⟨_, ho, hf⟩ := hf
    replace hf := zf_b4e hf
    obtain ⟨v13, h14, hv, hf⟩ | ⟨E15, h14, hv, hf⟩ := hf
    · refine zv_c zq_21 zo_21 rfl rfl rfl rfl rfl (zv_cv rfl rfl rfl (zf_ise ho) rfl) (t_f_ColumnVault_get _ _ _ _ _ _ _ hv) ?_
      cases hf
      exact zv_r zq_21 zo_21 rfl rfl rfl rfl rfl
    · skip
      replace hf := zf_ite hf
      obtain ⟨rfl, hf⟩ | ⟨hE0, hf⟩ := hf
      · refine zv_ca (f := (318, [(0, .ref p0), (1, .int p1), (2, .int p2), (3, .int p3), (4, .long p4)], [])) zq_21 zo_21 rfl rfl rfl rfl rfl (zv_cv rfl rfl rfl (zf_ise ho) rfl) (t_f_ColumnVault_get _ _ _ _ _ _ _ hv) rfl rfl ?_
        refine zv_lng zq_21 zo_21 rfl rfl ?_
        cases hf
        exact zv_r zq_21 zo_21 rfl rfl rfl rfl rfl
      replace hf := zf_ite hf
      obtain ⟨rfl, hf⟩ | ⟨hE1, hf⟩ := hf
      · refine zv_ca (f := (324, [(0, .ref p0), (1, .int p1), (2, .int p2), (3, .int p3), (4, .long p4)], [])) zq_21 zo_21 rfl rfl rfl rfl rfl (zv_cv rfl rfl rfl (zf_ise ho) rfl) (t_f_ColumnVault_get _ _ _ _ _ _ _ hv) rfl rfl ?_
        refine zv_lng zq_21 zo_21 rfl rfl ?_
        cases hf
        exact zv_r zq_21 zo_21 rfl rfl rfl rfl rfl
      replace hf := zf_ite hf
      obtain ⟨rfl, hf⟩ | ⟨hE2, hf⟩ := hf
      · refine zv_ca (f := (330, [(0, .ref p0), (1, .int p1), (2, .int p2), (3, .int p3), (4, .long p4)], [])) zq_21 zo_21 rfl rfl rfl rfl rfl (zv_cv rfl rfl rfl (zf_ise ho) rfl) (t_f_ColumnVault_get _ _ _ _ _ _ _ hv) rfl rfl ?_
        refine zv_lng zq_21 zo_21 rfl rfl ?_
        cases hf
        exact zv_r zq_21 zo_21 rfl rfl rfl rfl rfl
      replace hf := zf_ite hf
      obtain ⟨rfl, hf⟩ | ⟨hE3, hf⟩ := hf
      · refine zv_ca (f := (336, [(0, .ref p0), (1, .int p1), (2, .int p2), (3, .int p3), (4, .long p4)], [])) zq_21 zo_21 rfl rfl rfl rfl rfl (zv_cv rfl rfl rfl (zf_ise ho) rfl) (t_f_ColumnVault_get _ _ _ _ _ _ _ hv) rfl rfl ?_
        refine zv_lng zq_21 zo_21 rfl rfl ?_
        cases hf
        exact zv_r zq_21 zo_21 rfl rfl rfl rfl rfl
      cases hf
  replace hf := zf_ite hf
  obtain ⟨hc, hf⟩ | ⟨hs5, hf⟩ := hf
  · refine zv_sw (f' := (157, [(0, .ref p0), (1, .int p1), (2, .int p2), (3, .int p3), (4, .long p4)], [])) zq_21 zo_21 rfl hc rfl ?_
    refine zv_p (k := 2) (f' := (159, [(0, .ref p0), (1, .int p1), (2, .int p2), (3, .int p3), (4, .long p4)], [.int p2, .ref p0])) zq_21 zo_21 (by with_unfolding_all rfl) ?_
    replace hf := zf_be hf
    obtain ⟨_, ho, hf⟩ := hf
    replace hf := zf_b4e hf
    obtain ⟨v16, h17, hv, hf⟩ | ⟨E18, h17, hv, hf⟩ := hf
    · refine zv_c zq_21 zo_21 rfl rfl rfl rfl rfl (zv_cv rfl rfl rfl (zf_ise ho) rfl) (t_f_ColumnVault_back _ _ _ _ _ hv) ?_
      refine zv_p (k := 1) (f' := (163, [(0, .ref p0), (1, .int p1), (2, .int p2), (3, .int p3), (4, .long p4)], [.long (v16).toInt64])) zq_21 zo_21 (by with_unfolding_all rfl) ?_
      cases hf
      exact zv_r zq_21 zo_21 rfl rfl rfl rfl rfl
    · skip
      replace hf := zf_ite hf
      obtain ⟨rfl, hf⟩ | ⟨hE0, hf⟩ := hf
      · refine zv_ca (f := (318, [(0, .ref p0), (1, .int p1), (2, .int p2), (3, .int p3), (4, .long p4)], [])) zq_21 zo_21 rfl rfl rfl rfl rfl (zv_cv rfl rfl rfl (zf_ise ho) rfl) (t_f_ColumnVault_back _ _ _ _ _ hv) rfl rfl ?_
        refine zv_lng zq_21 zo_21 rfl rfl ?_
        cases hf
        exact zv_r zq_21 zo_21 rfl rfl rfl rfl rfl
      replace hf := zf_ite hf
      obtain ⟨rfl, hf⟩ | ⟨hE1, hf⟩ := hf
      · refine zv_ca (f := (324, [(0, .ref p0), (1, .int p1), (2, .int p2), (3, .int p3), (4, .long p4)], [])) zq_21 zo_21 rfl rfl rfl rfl rfl (zv_cv rfl rfl rfl (zf_ise ho) rfl) (t_f_ColumnVault_back _ _ _ _ _ hv) rfl rfl ?_
        refine zv_lng zq_21 zo_21 rfl rfl ?_
        cases hf
        exact zv_r zq_21 zo_21 rfl rfl rfl rfl rfl
      replace hf := zf_ite hf
      obtain ⟨rfl, hf⟩ | ⟨hE2, hf⟩ := hf
      · refine zv_ca (f := (330, [(0, .ref p0), (1, .int p1), (2, .int p2), (3, .int p3), (4, .long p4)], [])) zq_21 zo_21 rfl rfl rfl rfl rfl (zv_cv rfl rfl rfl (zf_ise ho) rfl) (t_f_ColumnVault_back _ _ _ _ _ hv) rfl rfl ?_
        refine zv_lng zq_21 zo_21 rfl rfl ?_
        cases hf
        exact zv_r zq_21 zo_21 rfl rfl rfl rfl rfl
      replace hf := zf_ite hf
      obtain ⟨rfl, hf⟩ | ⟨hE3, hf⟩ := hf
      · refine zv_ca (f := (336, [(0, .ref p0), (1, .int p1), (2, .int p2), (3, .int p3), (4, .long p4)], [])) zq_21 zo_21 rfl rfl rfl rfl rfl (zv_cv rfl rfl rfl (zf_ise ho) rfl) (t_f_ColumnVault_back _ _ _ _ _ hv) rfl rfl ?_
        refine zv_lng zq_21 zo_21 rfl rfl ?_
        cases hf
        exact zv_r zq_21 zo_21 rfl rfl rfl rfl rfl
      cases hf
  replace hf := zf_ite hf
  obtain ⟨hc, hf⟩ | ⟨hs6, hf⟩ := hf
  · refine zv_sw (f' := (164, [(0, .ref p0), (1, .int p1), (2, .int p2), (3, .int p3), (4, .long p4)], [])) zq_21 zo_21 rfl hc rfl ?_
    refine zv_p (k := 3) (f' := (167, [(0, .ref p0), (1, .int p1), (2, .int p2), (3, .int p3), (4, .long p4)], [.int p3, .int p2, .ref p0])) zq_21 zo_21 (by with_unfolding_all rfl) ?_
    replace hf := zf_be hf
    obtain ⟨_, ho, hf⟩ := hf
    replace hf := zf_b4e hf
    obtain ⟨v19, h20, hv, hf⟩ | ⟨E21, h20, hv, hf⟩ := hf
    · refine zv_c zq_21 zo_21 rfl rfl rfl rfl rfl (zv_cv rfl rfl rfl (zf_ise ho) rfl) (t_f_ColumnVault_rowAt _ _ _ _ _ _ hv) ?_
      refine zv_p (k := 1) (f' := (171, [(0, .ref p0), (1, .int p1), (2, .int p2), (3, .int p3), (4, .long p4)], [.long (v19).toInt64])) zq_21 zo_21 (by with_unfolding_all rfl) ?_
      cases hf
      exact zv_r zq_21 zo_21 rfl rfl rfl rfl rfl
    · skip
      replace hf := zf_ite hf
      obtain ⟨rfl, hf⟩ | ⟨hE0, hf⟩ := hf
      · refine zv_ca (f := (318, [(0, .ref p0), (1, .int p1), (2, .int p2), (3, .int p3), (4, .long p4)], [])) zq_21 zo_21 rfl rfl rfl rfl rfl (zv_cv rfl rfl rfl (zf_ise ho) rfl) (t_f_ColumnVault_rowAt _ _ _ _ _ _ hv) rfl rfl ?_
        refine zv_lng zq_21 zo_21 rfl rfl ?_
        cases hf
        exact zv_r zq_21 zo_21 rfl rfl rfl rfl rfl
      replace hf := zf_ite hf
      obtain ⟨rfl, hf⟩ | ⟨hE1, hf⟩ := hf
      · refine zv_ca (f := (324, [(0, .ref p0), (1, .int p1), (2, .int p2), (3, .int p3), (4, .long p4)], [])) zq_21 zo_21 rfl rfl rfl rfl rfl (zv_cv rfl rfl rfl (zf_ise ho) rfl) (t_f_ColumnVault_rowAt _ _ _ _ _ _ hv) rfl rfl ?_
        refine zv_lng zq_21 zo_21 rfl rfl ?_
        cases hf
        exact zv_r zq_21 zo_21 rfl rfl rfl rfl rfl
      replace hf := zf_ite hf
      obtain ⟨rfl, hf⟩ | ⟨hE2, hf⟩ := hf
      · refine zv_ca (f := (330, [(0, .ref p0), (1, .int p1), (2, .int p2), (3, .int p3), (4, .long p4)], [])) zq_21 zo_21 rfl rfl rfl rfl rfl (zv_cv rfl rfl rfl (zf_ise ho) rfl) (t_f_ColumnVault_rowAt _ _ _ _ _ _ hv) rfl rfl ?_
        refine zv_lng zq_21 zo_21 rfl rfl ?_
        cases hf
        exact zv_r zq_21 zo_21 rfl rfl rfl rfl rfl
      replace hf := zf_ite hf
      obtain ⟨rfl, hf⟩ | ⟨hE3, hf⟩ := hf
      · refine zv_ca (f := (336, [(0, .ref p0), (1, .int p1), (2, .int p2), (3, .int p3), (4, .long p4)], [])) zq_21 zo_21 rfl rfl rfl rfl rfl (zv_cv rfl rfl rfl (zf_ise ho) rfl) (t_f_ColumnVault_rowAt _ _ _ _ _ _ hv) rfl rfl ?_
        refine zv_lng zq_21 zo_21 rfl rfl ?_
        cases hf
        exact zv_r zq_21 zo_21 rfl rfl rfl rfl rfl
      cases hf
  replace hf := zf_ite hf
  obtain ⟨hc, hf⟩ | ⟨hs7, hf⟩ := hf
  · refine zv_sw (f' := (172, [(0, .ref p0), (1, .int p1), (2, .int p2), (3, .int p3), (4, .long p4)], [])) zq_21 zo_21 rfl hc rfl ?_
    refine zv_p (k := 3) (f' := (175, [(0, .ref p0), (1, .int p1), (2, .int p2), (3, .int p3), (4, .long p4)], [.int p3, .int p2, .ref p0])) zq_21 zo_21 (by with_unfolding_all rfl) ?_
    replace hf := zf_be hf
    obtain ⟨_, ho, hf⟩ := hf
    replace hf := zf_b4e hf
    obtain ⟨v22, h23, hv, hf⟩ | ⟨E24, h23, hv, hf⟩ := hf
    · refine zv_c zq_21 zo_21 rfl rfl rfl rfl rfl (zv_cv rfl rfl rfl (zf_ise ho) rfl) (t_f_ColumnVault_choose _ _ _ _ _ _ hv) ?_
      refine zv_p (k := 1) (f' := (179, [(0, .ref p0), (1, .int p1), (2, .int p2), (3, .int p3), (4, .long p4)], [.long (v22).toInt64])) zq_21 zo_21 (by with_unfolding_all rfl) ?_
      cases hf
      exact zv_r zq_21 zo_21 rfl rfl rfl rfl rfl
    · skip
      replace hf := zf_ite hf
      obtain ⟨rfl, hf⟩ | ⟨hE0, hf⟩ := hf
      · refine zv_ca (f := (318, [(0, .ref p0), (1, .int p1), (2, .int p2), (3, .int p3), (4, .long p4)], [])) zq_21 zo_21 rfl rfl rfl rfl rfl (zv_cv rfl rfl rfl (zf_ise ho) rfl) (t_f_ColumnVault_choose _ _ _ _ _ _ hv) rfl rfl ?_
        refine zv_lng zq_21 zo_21 rfl rfl ?_
        cases hf
        exact zv_r zq_21 zo_21 rfl rfl rfl rfl rfl
      replace hf := zf_ite hf
      obtain ⟨rfl, hf⟩ | ⟨hE1, hf⟩ := hf
      · refine zv_ca (f := (324, [(0, .ref p0), (1, .int p1), (2, .int p2), (3, .int p3), (4, .long p4)], [])) zq_21 zo_21 rfl rfl rfl rfl rfl (zv_cv rfl rfl rfl (zf_ise ho) rfl) (t_f_ColumnVault_choose _ _ _ _ _ _ hv) rfl rfl ?_
        refine zv_lng zq_21 zo_21 rfl rfl ?_
        cases hf
        exact zv_r zq_21 zo_21 rfl rfl rfl rfl rfl
      replace hf := zf_ite hf
      obtain ⟨rfl, hf⟩ | ⟨hE2, hf⟩ := hf
      · refine zv_ca (f := (330, [(0, .ref p0), (1, .int p1), (2, .int p2), (3, .int p3), (4, .long p4)], [])) zq_21 zo_21 rfl rfl rfl rfl rfl (zv_cv rfl rfl rfl (zf_ise ho) rfl) (t_f_ColumnVault_choose _ _ _ _ _ _ hv) rfl rfl ?_
        refine zv_lng zq_21 zo_21 rfl rfl ?_
        cases hf
        exact zv_r zq_21 zo_21 rfl rfl rfl rfl rfl
      replace hf := zf_ite hf
      obtain ⟨rfl, hf⟩ | ⟨hE3, hf⟩ := hf
      · refine zv_ca (f := (336, [(0, .ref p0), (1, .int p1), (2, .int p2), (3, .int p3), (4, .long p4)], [])) zq_21 zo_21 rfl rfl rfl rfl rfl (zv_cv rfl rfl rfl (zf_ise ho) rfl) (t_f_ColumnVault_choose _ _ _ _ _ _ hv) rfl rfl ?_
        refine zv_lng zq_21 zo_21 rfl rfl ?_
        cases hf
        exact zv_r zq_21 zo_21 rfl rfl rfl rfl rfl
      cases hf
  replace hf := zf_ite hf
  obtain ⟨hc, hf⟩ | ⟨hs8, hf⟩ := hf
  · refine zv_sw (f' := (180, [(0, .ref p0), (1, .int p1), (2, .int p2), (3, .int p3), (4, .long p4)], [])) zq_21 zo_21 rfl hc rfl ?_
    refine zv_p (k := 2) (f' := (182, [(0, .ref p0), (1, .int p1), (2, .int p2), (3, .int p3), (4, .long p4)], [.int p2, .ref p0])) zq_21 zo_21 (by with_unfolding_all rfl) ?_
    replace hf := zf_be hf
    obtain ⟨_, ho, hf⟩ := hf
    replace hf := zf_b4e hf
    obtain ⟨v25, h26, hv, hf⟩ | ⟨E27, h26, hv, hf⟩ := hf
    · refine zv_c zq_21 zo_21 rfl rfl rfl rfl rfl (zv_cv rfl rfl rfl (zf_ise ho) rfl) (t_f_ColumnVault_count _ _ _ _ _ hv) ?_
      refine zv_p (k := 1) (f' := (186, [(0, .ref p0), (1, .int p1), (2, .int p2), (3, .int p3), (4, .long p4)], [.long (v25).toInt64])) zq_21 zo_21 (by with_unfolding_all rfl) ?_
      cases hf
      exact zv_r zq_21 zo_21 rfl rfl rfl rfl rfl
    · skip
      replace hf := zf_ite hf
      obtain ⟨rfl, hf⟩ | ⟨hE0, hf⟩ := hf
      · refine zv_ca (f := (318, [(0, .ref p0), (1, .int p1), (2, .int p2), (3, .int p3), (4, .long p4)], [])) zq_21 zo_21 rfl rfl rfl rfl rfl (zv_cv rfl rfl rfl (zf_ise ho) rfl) (t_f_ColumnVault_count _ _ _ _ _ hv) rfl rfl ?_
        refine zv_lng zq_21 zo_21 rfl rfl ?_
        cases hf
        exact zv_r zq_21 zo_21 rfl rfl rfl rfl rfl
      replace hf := zf_ite hf
      obtain ⟨rfl, hf⟩ | ⟨hE1, hf⟩ := hf
      · refine zv_ca (f := (324, [(0, .ref p0), (1, .int p1), (2, .int p2), (3, .int p3), (4, .long p4)], [])) zq_21 zo_21 rfl rfl rfl rfl rfl (zv_cv rfl rfl rfl (zf_ise ho) rfl) (t_f_ColumnVault_count _ _ _ _ _ hv) rfl rfl ?_
        refine zv_lng zq_21 zo_21 rfl rfl ?_
        cases hf
        exact zv_r zq_21 zo_21 rfl rfl rfl rfl rfl
      replace hf := zf_ite hf
      obtain ⟨rfl, hf⟩ | ⟨hE2, hf⟩ := hf
      · refine zv_ca (f := (330, [(0, .ref p0), (1, .int p1), (2, .int p2), (3, .int p3), (4, .long p4)], [])) zq_21 zo_21 rfl rfl rfl rfl rfl (zv_cv rfl rfl rfl (zf_ise ho) rfl) (t_f_ColumnVault_count _ _ _ _ _ hv) rfl rfl ?_
        refine zv_lng zq_21 zo_21 rfl rfl ?_
        cases hf
        exact zv_r zq_21 zo_21 rfl rfl rfl rfl rfl
      replace hf := zf_ite hf
      obtain ⟨rfl, hf⟩ | ⟨hE3, hf⟩ := hf
      · refine zv_ca (f := (336, [(0, .ref p0), (1, .int p1), (2, .int p2), (3, .int p3), (4, .long p4)], [])) zq_21 zo_21 rfl rfl rfl rfl rfl (zv_cv rfl rfl rfl (zf_ise ho) rfl) (t_f_ColumnVault_count _ _ _ _ _ hv) rfl rfl ?_
        refine zv_lng zq_21 zo_21 rfl rfl ?_
        cases hf
        exact zv_r zq_21 zo_21 rfl rfl rfl rfl rfl
      cases hf
  replace hf := zf_ite hf
  obtain ⟨hc, hf⟩ | ⟨hs9, hf⟩ := hf
  · refine zv_sw (f' := (187, [(0, .ref p0), (1, .int p1), (2, .int p2), (3, .int p3), (4, .long p4)], [])) zq_21 zo_21 rfl hc rfl ?_
    refine zv_p (k := 7) (f' := (195, [(0, .ref p0), (1, .int p1), (2, .int p2), (3, .int p3), (4, .long p4)], [.int (0 : Int32), .int (p4).toInt32, .int p2, .int p3, .int p2, .ref p0])) zq_21 zo_21 (by with_unfolding_all rfl) ?_
    replace hf := zf_be hf
    obtain ⟨_, ho, hf⟩ := hf
    replace hf := zf_b4e hf
    obtain ⟨v28, h29, hv, hf⟩ | ⟨E30, h29, hv, hf⟩ := hf
    · refine zv_c zq_21 zo_21 rfl rfl rfl rfl rfl (zv_cv rfl rfl rfl (zf_ise ho) rfl) (t_f_ColumnVault_join _ _ _ _ _ _ _ _ _ hv) ?_
      refine zv_p (k := 1) (f' := (199, [(0, .ref p0), (1, .int p1), (2, .int p2), (3, .int p3), (4, .long p4)], [.long (v28).toInt64])) zq_21 zo_21 (by with_unfolding_all rfl) ?_
      cases hf
      exact zv_r zq_21 zo_21 rfl rfl rfl rfl rfl
    · skip
      replace hf := zf_ite hf
      obtain ⟨rfl, hf⟩ | ⟨hE0, hf⟩ := hf
      · refine zv_ca (f := (318, [(0, .ref p0), (1, .int p1), (2, .int p2), (3, .int p3), (4, .long p4)], [])) zq_21 zo_21 rfl rfl rfl rfl rfl (zv_cv rfl rfl rfl (zf_ise ho) rfl) (t_f_ColumnVault_join _ _ _ _ _ _ _ _ _ hv) rfl rfl ?_
        refine zv_lng zq_21 zo_21 rfl rfl ?_
        cases hf
        exact zv_r zq_21 zo_21 rfl rfl rfl rfl rfl
      replace hf := zf_ite hf
      obtain ⟨rfl, hf⟩ | ⟨hE1, hf⟩ := hf
      · refine zv_ca (f := (324, [(0, .ref p0), (1, .int p1), (2, .int p2), (3, .int p3), (4, .long p4)], [])) zq_21 zo_21 rfl rfl rfl rfl rfl (zv_cv rfl rfl rfl (zf_ise ho) rfl) (t_f_ColumnVault_join _ _ _ _ _ _ _ _ _ hv) rfl rfl ?_
        refine zv_lng zq_21 zo_21 rfl rfl ?_
        cases hf
        exact zv_r zq_21 zo_21 rfl rfl rfl rfl rfl
      replace hf := zf_ite hf
      obtain ⟨rfl, hf⟩ | ⟨hE2, hf⟩ := hf
      · refine zv_ca (f := (330, [(0, .ref p0), (1, .int p1), (2, .int p2), (3, .int p3), (4, .long p4)], [])) zq_21 zo_21 rfl rfl rfl rfl rfl (zv_cv rfl rfl rfl (zf_ise ho) rfl) (t_f_ColumnVault_join _ _ _ _ _ _ _ _ _ hv) rfl rfl ?_
        refine zv_lng zq_21 zo_21 rfl rfl ?_
        cases hf
        exact zv_r zq_21 zo_21 rfl rfl rfl rfl rfl
      replace hf := zf_ite hf
      obtain ⟨rfl, hf⟩ | ⟨hE3, hf⟩ := hf
      · refine zv_ca (f := (336, [(0, .ref p0), (1, .int p1), (2, .int p2), (3, .int p3), (4, .long p4)], [])) zq_21 zo_21 rfl rfl rfl rfl rfl (zv_cv rfl rfl rfl (zf_ise ho) rfl) (t_f_ColumnVault_join _ _ _ _ _ _ _ _ _ hv) rfl rfl ?_
        refine zv_lng zq_21 zo_21 rfl rfl ?_
        cases hf
        exact zv_r zq_21 zo_21 rfl rfl rfl rfl rfl
      cases hf
  replace hf := zf_ite hf
  obtain ⟨hc, hf⟩ | ⟨hs10, hf⟩ := hf
  · refine zv_sw (f' := (200, [(0, .ref p0), (1, .int p1), (2, .int p2), (3, .int p3), (4, .long p4)], [])) zq_21 zo_21 rfl hc rfl ?_
    refine zv_p (k := 3) (f' := (203, [(0, .ref p0), (1, .int p1), (2, .int p2), (3, .int p3), (4, .long p4)], [.int (0 : Int32), .int p2, .ref p0])) zq_21 zo_21 (by with_unfolding_all rfl) ?_
    replace hf := zf_be hf
    obtain ⟨_, ho, hf⟩ := hf
    replace hf := zf_b4e hf
    obtain ⟨v31, h32, hv, hf⟩ | ⟨E33, h32, hv, hf⟩ := hf
    · refine zv_c zq_21 zo_21 rfl rfl rfl rfl rfl (zv_cv rfl rfl rfl (zf_ise ho) rfl) (t_f_ColumnVault_pairAt _ _ _ _ _ _ hv) ?_
      refine zv_p (k := 1) (f' := (207, [(0, .ref p0), (1, .int p1), (2, .int p2), (3, .int p3), (4, .long p4)], [.long (v31).toInt64])) zq_21 zo_21 (by with_unfolding_all rfl) ?_
      cases hf
      exact zv_r zq_21 zo_21 rfl rfl rfl rfl rfl
    · skip
      replace hf := zf_ite hf
      obtain ⟨rfl, hf⟩ | ⟨hE0, hf⟩ := hf
      · refine zv_ca (f := (318, [(0, .ref p0), (1, .int p1), (2, .int p2), (3, .int p3), (4, .long p4)], [])) zq_21 zo_21 rfl rfl rfl rfl rfl (zv_cv rfl rfl rfl (zf_ise ho) rfl) (t_f_ColumnVault_pairAt _ _ _ _ _ _ hv) rfl rfl ?_
        refine zv_lng zq_21 zo_21 rfl rfl ?_
        cases hf
        exact zv_r zq_21 zo_21 rfl rfl rfl rfl rfl
      replace hf := zf_ite hf
      obtain ⟨rfl, hf⟩ | ⟨hE1, hf⟩ := hf
      · refine zv_ca (f := (324, [(0, .ref p0), (1, .int p1), (2, .int p2), (3, .int p3), (4, .long p4)], [])) zq_21 zo_21 rfl rfl rfl rfl rfl (zv_cv rfl rfl rfl (zf_ise ho) rfl) (t_f_ColumnVault_pairAt _ _ _ _ _ _ hv) rfl rfl ?_
        refine zv_lng zq_21 zo_21 rfl rfl ?_
        cases hf
        exact zv_r zq_21 zo_21 rfl rfl rfl rfl rfl
      replace hf := zf_ite hf
      obtain ⟨rfl, hf⟩ | ⟨hE2, hf⟩ := hf
      · refine zv_ca (f := (330, [(0, .ref p0), (1, .int p1), (2, .int p2), (3, .int p3), (4, .long p4)], [])) zq_21 zo_21 rfl rfl rfl rfl rfl (zv_cv rfl rfl rfl (zf_ise ho) rfl) (t_f_ColumnVault_pairAt _ _ _ _ _ _ hv) rfl rfl ?_
        refine zv_lng zq_21 zo_21 rfl rfl ?_
        cases hf
        exact zv_r zq_21 zo_21 rfl rfl rfl rfl rfl
      replace hf := zf_ite hf
      obtain ⟨rfl, hf⟩ | ⟨hE3, hf⟩ := hf
      · refine zv_ca (f := (336, [(0, .ref p0), (1, .int p1), (2, .int p2), (3, .int p3), (4, .long p4)], [])) zq_21 zo_21 rfl rfl rfl rfl rfl (zv_cv rfl rfl rfl (zf_ise ho) rfl) (t_f_ColumnVault_pairAt _ _ _ _ _ _ hv) rfl rfl ?_
        refine zv_lng zq_21 zo_21 rfl rfl ?_
        cases hf
        exact zv_r zq_21 zo_21 rfl rfl rfl rfl rfl
      cases hf
  replace hf := zf_ite hf
  obtain ⟨hc, hf⟩ | ⟨hs11, hf⟩ := hf
  · refine zv_sw (f' := (208, [(0, .ref p0), (1, .int p1), (2, .int p2), (3, .int p3), (4, .long p4)], [])) zq_21 zo_21 rfl hc rfl ?_
    refine zv_p (k := 3) (f' := (211, [(0, .ref p0), (1, .int p1), (2, .int p2), (3, .int p3), (4, .long p4)], [.int p3, .int p2, .ref p0])) zq_21 zo_21 (by with_unfolding_all rfl) ?_
    replace hf := zf_be hf
    obtain ⟨_, ho, hf⟩ := hf
    replace hf := zf_b4e hf
    obtain ⟨v34, h35, hv, hf⟩ | ⟨E36, h35, hv, hf⟩ := hf
    · refine zv_c zq_21 zo_21 rfl rfl rfl rfl rfl (zv_cv rfl rfl rfl (zf_ise ho) rfl) (t_f_ColumnVault_groupAt _ _ _ _ _ _ hv) ?_
      cases hf
      exact zv_r zq_21 zo_21 rfl rfl rfl rfl rfl
    · skip
      replace hf := zf_ite hf
      obtain ⟨rfl, hf⟩ | ⟨hE0, hf⟩ := hf
      · refine zv_ca (f := (318, [(0, .ref p0), (1, .int p1), (2, .int p2), (3, .int p3), (4, .long p4)], [])) zq_21 zo_21 rfl rfl rfl rfl rfl (zv_cv rfl rfl rfl (zf_ise ho) rfl) (t_f_ColumnVault_groupAt _ _ _ _ _ _ hv) rfl rfl ?_
        refine zv_lng zq_21 zo_21 rfl rfl ?_
        cases hf
        exact zv_r zq_21 zo_21 rfl rfl rfl rfl rfl
      replace hf := zf_ite hf
      obtain ⟨rfl, hf⟩ | ⟨hE1, hf⟩ := hf
      · refine zv_ca (f := (324, [(0, .ref p0), (1, .int p1), (2, .int p2), (3, .int p3), (4, .long p4)], [])) zq_21 zo_21 rfl rfl rfl rfl rfl (zv_cv rfl rfl rfl (zf_ise ho) rfl) (t_f_ColumnVault_groupAt _ _ _ _ _ _ hv) rfl rfl ?_
        refine zv_lng zq_21 zo_21 rfl rfl ?_
        cases hf
        exact zv_r zq_21 zo_21 rfl rfl rfl rfl rfl
      replace hf := zf_ite hf
      obtain ⟨rfl, hf⟩ | ⟨hE2, hf⟩ := hf
      · refine zv_ca (f := (330, [(0, .ref p0), (1, .int p1), (2, .int p2), (3, .int p3), (4, .long p4)], [])) zq_21 zo_21 rfl rfl rfl rfl rfl (zv_cv rfl rfl rfl (zf_ise ho) rfl) (t_f_ColumnVault_groupAt _ _ _ _ _ _ hv) rfl rfl ?_
        refine zv_lng zq_21 zo_21 rfl rfl ?_
        cases hf
        exact zv_r zq_21 zo_21 rfl rfl rfl rfl rfl
      replace hf := zf_ite hf
      obtain ⟨rfl, hf⟩ | ⟨hE3, hf⟩ := hf
      · refine zv_ca (f := (336, [(0, .ref p0), (1, .int p1), (2, .int p2), (3, .int p3), (4, .long p4)], [])) zq_21 zo_21 rfl rfl rfl rfl rfl (zv_cv rfl rfl rfl (zf_ise ho) rfl) (t_f_ColumnVault_groupAt _ _ _ _ _ _ hv) rfl rfl ?_
        refine zv_lng zq_21 zo_21 rfl rfl ?_
        cases hf
        exact zv_r zq_21 zo_21 rfl rfl rfl rfl rfl
      cases hf
  replace hf := zf_ite hf
  obtain ⟨hc, hf⟩ | ⟨hs12, hf⟩ := hf
  · refine zv_sw (f' := (215, [(0, .ref p0), (1, .int p1), (2, .int p2), (3, .int p3), (4, .long p4)], [])) zq_21 zo_21 rfl hc rfl ?_
    refine zv_p (k := 5) (f' := (221, [(0, .ref p0), (1, .int p1), (2, .int p2), (3, .int p3), (4, .long p4)], [.int (p4).toInt32, .int p3, .int p2, .ref p0])) zq_21 zo_21 (by with_unfolding_all rfl) ?_
    replace hf := zf_be hf
    obtain ⟨_, ho, hf⟩ := hf
    replace hf := zf_b4e hf
    obtain ⟨v37, h38, hv, hf⟩ | ⟨E39, h38, hv, hf⟩ := hf
    · refine zv_c zq_21 zo_21 rfl rfl rfl rfl rfl (zv_cv rfl rfl rfl (zf_ise ho) rfl) (t_f_ColumnVault_total _ _ _ _ _ _ _ hv) ?_
      cases hf
      exact zv_r zq_21 zo_21 rfl rfl rfl rfl rfl
    · skip
      replace hf := zf_ite hf
      obtain ⟨rfl, hf⟩ | ⟨hE0, hf⟩ := hf
      · refine zv_ca (f := (318, [(0, .ref p0), (1, .int p1), (2, .int p2), (3, .int p3), (4, .long p4)], [])) zq_21 zo_21 rfl rfl rfl rfl rfl (zv_cv rfl rfl rfl (zf_ise ho) rfl) (t_f_ColumnVault_total _ _ _ _ _ _ _ hv) rfl rfl ?_
        refine zv_lng zq_21 zo_21 rfl rfl ?_
        cases hf
        exact zv_r zq_21 zo_21 rfl rfl rfl rfl rfl
      replace hf := zf_ite hf
      obtain ⟨rfl, hf⟩ | ⟨hE1, hf⟩ := hf
      · refine zv_ca (f := (324, [(0, .ref p0), (1, .int p1), (2, .int p2), (3, .int p3), (4, .long p4)], [])) zq_21 zo_21 rfl rfl rfl rfl rfl (zv_cv rfl rfl rfl (zf_ise ho) rfl) (t_f_ColumnVault_total _ _ _ _ _ _ _ hv) rfl rfl ?_
        refine zv_lng zq_21 zo_21 rfl rfl ?_
        cases hf
        exact zv_r zq_21 zo_21 rfl rfl rfl rfl rfl
      replace hf := zf_ite hf
      obtain ⟨rfl, hf⟩ | ⟨hE2, hf⟩ := hf
      · refine zv_ca (f := (330, [(0, .ref p0), (1, .int p1), (2, .int p2), (3, .int p3), (4, .long p4)], [])) zq_21 zo_21 rfl rfl rfl rfl rfl (zv_cv rfl rfl rfl (zf_ise ho) rfl) (t_f_ColumnVault_total _ _ _ _ _ _ _ hv) rfl rfl ?_
        refine zv_lng zq_21 zo_21 rfl rfl ?_
        cases hf
        exact zv_r zq_21 zo_21 rfl rfl rfl rfl rfl
      replace hf := zf_ite hf
      obtain ⟨rfl, hf⟩ | ⟨hE3, hf⟩ := hf
      · refine zv_ca (f := (336, [(0, .ref p0), (1, .int p1), (2, .int p2), (3, .int p3), (4, .long p4)], [])) zq_21 zo_21 rfl rfl rfl rfl rfl (zv_cv rfl rfl rfl (zf_ise ho) rfl) (t_f_ColumnVault_total _ _ _ _ _ _ _ hv) rfl rfl ?_
        refine zv_lng zq_21 zo_21 rfl rfl ?_
        cases hf
        exact zv_r zq_21 zo_21 rfl rfl rfl rfl rfl
      cases hf
  replace hf := zf_ite hf
  obtain ⟨hc, hf⟩ | ⟨hs13, hf⟩ := hf
  · refine zv_sw (f' := (225, [(0, .ref p0), (1, .int p1), (2, .int p2), (3, .int p3), (4, .long p4)], [])) zq_21 zo_21 rfl hc rfl ?_
    refine zv_p (k := 6) (f' := (232, [(0, .ref p0), (1, .int p1), (2, .int p2), (3, .int p3), (4, .long p4)], [.int (p4).toInt32, .int p3, .int p3, .int p2, .ref p0])) zq_21 zo_21 (by with_unfolding_all rfl) ?_
    replace hf := zf_be hf
    obtain ⟨_, ho, hf⟩ := hf
    replace hf := zf_b4e hf
    obtain ⟨v40, h41, hv, hf⟩ | ⟨E42, h41, hv, hf⟩ := hf
    · refine zv_c zq_21 zo_21 rfl rfl rfl rfl rfl (zv_cv rfl rfl rfl (zf_ise ho) rfl) (t_f_ColumnVault_rank _ _ _ _ _ _ _ _ hv) ?_
      refine zv_p (k := 1) (f' := (236, [(0, .ref p0), (1, .int p1), (2, .int p2), (3, .int p3), (4, .long p4)], [.long (v40).toInt64])) zq_21 zo_21 (by with_unfolding_all rfl) ?_
      cases hf
      exact zv_r zq_21 zo_21 rfl rfl rfl rfl rfl
    · skip
      replace hf := zf_ite hf
      obtain ⟨rfl, hf⟩ | ⟨hE0, hf⟩ := hf
      · refine zv_ca (f := (318, [(0, .ref p0), (1, .int p1), (2, .int p2), (3, .int p3), (4, .long p4)], [])) zq_21 zo_21 rfl rfl rfl rfl rfl (zv_cv rfl rfl rfl (zf_ise ho) rfl) (t_f_ColumnVault_rank _ _ _ _ _ _ _ _ hv) rfl rfl ?_
        refine zv_lng zq_21 zo_21 rfl rfl ?_
        cases hf
        exact zv_r zq_21 zo_21 rfl rfl rfl rfl rfl
      replace hf := zf_ite hf
      obtain ⟨rfl, hf⟩ | ⟨hE1, hf⟩ := hf
      · refine zv_ca (f := (324, [(0, .ref p0), (1, .int p1), (2, .int p2), (3, .int p3), (4, .long p4)], [])) zq_21 zo_21 rfl rfl rfl rfl rfl (zv_cv rfl rfl rfl (zf_ise ho) rfl) (t_f_ColumnVault_rank _ _ _ _ _ _ _ _ hv) rfl rfl ?_
        refine zv_lng zq_21 zo_21 rfl rfl ?_
        cases hf
        exact zv_r zq_21 zo_21 rfl rfl rfl rfl rfl
      replace hf := zf_ite hf
      obtain ⟨rfl, hf⟩ | ⟨hE2, hf⟩ := hf
      · refine zv_ca (f := (330, [(0, .ref p0), (1, .int p1), (2, .int p2), (3, .int p3), (4, .long p4)], [])) zq_21 zo_21 rfl rfl rfl rfl rfl (zv_cv rfl rfl rfl (zf_ise ho) rfl) (t_f_ColumnVault_rank _ _ _ _ _ _ _ _ hv) rfl rfl ?_
        refine zv_lng zq_21 zo_21 rfl rfl ?_
        cases hf
        exact zv_r zq_21 zo_21 rfl rfl rfl rfl rfl
      replace hf := zf_ite hf
      obtain ⟨rfl, hf⟩ | ⟨hE3, hf⟩ := hf
      · refine zv_ca (f := (336, [(0, .ref p0), (1, .int p1), (2, .int p2), (3, .int p3), (4, .long p4)], [])) zq_21 zo_21 rfl rfl rfl rfl rfl (zv_cv rfl rfl rfl (zf_ise ho) rfl) (t_f_ColumnVault_rank _ _ _ _ _ _ _ _ hv) rfl rfl ?_
        refine zv_lng zq_21 zo_21 rfl rfl ?_
        cases hf
        exact zv_r zq_21 zo_21 rfl rfl rfl rfl rfl
      cases hf
  replace hf := zf_ite hf
  obtain ⟨hc, hf⟩ | ⟨hs14, hf⟩ := hf
  · refine zv_sw (f' := (237, [(0, .ref p0), (1, .int p1), (2, .int p2), (3, .int p3), (4, .long p4)], [])) zq_21 zo_21 rfl hc rfl ?_
    refine zv_p (k := 5) (f' := (244, [(0, .ref p0), (1, .int p1), (2, .int p2), (3, .int p3), (4, .long p4)], [.long p4, .long p4, .int p3, .int p2, .ref p0])) zq_21 zo_21 (by with_unfolding_all rfl) ?_
    replace hf := zf_be hf
    obtain ⟨_, ho, hf⟩ := hf
    replace hf := zf_b4e hf
    obtain ⟨v43, h44, hv, hf⟩ | ⟨E45, h44, hv, hf⟩ := hf
    · refine zv_c zq_21 zo_21 rfl rfl rfl rfl rfl (zv_cv rfl rfl rfl (zf_ise ho) rfl) (t_f_ColumnVault_between _ _ _ _ _ _ _ _ hv) ?_
      refine zv_p (k := 1) (f' := (248, [(0, .ref p0), (1, .int p1), (2, .int p2), (3, .int p3), (4, .long p4)], [.long (v43).toInt64])) zq_21 zo_21 (by with_unfolding_all rfl) ?_
      cases hf
      exact zv_r zq_21 zo_21 rfl rfl rfl rfl rfl
    · skip
      replace hf := zf_ite hf
      obtain ⟨rfl, hf⟩ | ⟨hE0, hf⟩ := hf
      · refine zv_ca (f := (318, [(0, .ref p0), (1, .int p1), (2, .int p2), (3, .int p3), (4, .long p4)], [])) zq_21 zo_21 rfl rfl rfl rfl rfl (zv_cv rfl rfl rfl (zf_ise ho) rfl) (t_f_ColumnVault_between _ _ _ _ _ _ _ _ hv) rfl rfl ?_
        refine zv_lng zq_21 zo_21 rfl rfl ?_
        cases hf
        exact zv_r zq_21 zo_21 rfl rfl rfl rfl rfl
      replace hf := zf_ite hf
      obtain ⟨rfl, hf⟩ | ⟨hE1, hf⟩ := hf
      · refine zv_ca (f := (324, [(0, .ref p0), (1, .int p1), (2, .int p2), (3, .int p3), (4, .long p4)], [])) zq_21 zo_21 rfl rfl rfl rfl rfl (zv_cv rfl rfl rfl (zf_ise ho) rfl) (t_f_ColumnVault_between _ _ _ _ _ _ _ _ hv) rfl rfl ?_
        refine zv_lng zq_21 zo_21 rfl rfl ?_
        cases hf
        exact zv_r zq_21 zo_21 rfl rfl rfl rfl rfl
      replace hf := zf_ite hf
      obtain ⟨rfl, hf⟩ | ⟨hE2, hf⟩ := hf
      · refine zv_ca (f := (330, [(0, .ref p0), (1, .int p1), (2, .int p2), (3, .int p3), (4, .long p4)], [])) zq_21 zo_21 rfl rfl rfl rfl rfl (zv_cv rfl rfl rfl (zf_ise ho) rfl) (t_f_ColumnVault_between _ _ _ _ _ _ _ _ hv) rfl rfl ?_
        refine zv_lng zq_21 zo_21 rfl rfl ?_
        cases hf
        exact zv_r zq_21 zo_21 rfl rfl rfl rfl rfl
      replace hf := zf_ite hf
      obtain ⟨rfl, hf⟩ | ⟨hE3, hf⟩ := hf
      · refine zv_ca (f := (336, [(0, .ref p0), (1, .int p1), (2, .int p2), (3, .int p3), (4, .long p4)], [])) zq_21 zo_21 rfl rfl rfl rfl rfl (zv_cv rfl rfl rfl (zf_ise ho) rfl) (t_f_ColumnVault_between _ _ _ _ _ _ _ _ hv) rfl rfl ?_
        refine zv_lng zq_21 zo_21 rfl rfl ?_
        cases hf
        exact zv_r zq_21 zo_21 rfl rfl rfl rfl rfl
      cases hf
  replace hf := zf_ite hf
  obtain ⟨hc, hf⟩ | ⟨hs15, hf⟩ := hf
  · refine zv_sw (f' := (249, [(0, .ref p0), (1, .int p1), (2, .int p2), (3, .int p3), (4, .long p4)], [])) zq_21 zo_21 rfl hc rfl ?_
    refine zv_p (k := 5) (f' := (255, [(0, .ref p0), (1, .int p1), (2, .int p2), (3, .int p3), (4, .long p4)], [.int (1 : Int32), .long p4, .int p3, .int p2, .ref p0])) zq_21 zo_21 (by with_unfolding_all rfl) ?_
    replace hf := zf_be hf
    obtain ⟨_, ho, hf⟩ := hf
    replace hf := zf_b4e hf
    obtain ⟨v46, h47, hv, hf⟩ | ⟨E48, h47, hv, hf⟩ := hf
    · refine zv_c zq_21 zo_21 rfl rfl rfl rfl rfl (zv_cv rfl rfl rfl (zf_ise ho) rfl) (t_f_ColumnVault_nearest _ _ _ _ _ _ _ _ hv) ?_
      cases hf
      exact zv_r zq_21 zo_21 rfl rfl rfl rfl rfl
    · skip
      replace hf := zf_ite hf
      obtain ⟨rfl, hf⟩ | ⟨hE0, hf⟩ := hf
      · refine zv_ca (f := (318, [(0, .ref p0), (1, .int p1), (2, .int p2), (3, .int p3), (4, .long p4)], [])) zq_21 zo_21 rfl rfl rfl rfl rfl (zv_cv rfl rfl rfl (zf_ise ho) rfl) (t_f_ColumnVault_nearest _ _ _ _ _ _ _ _ hv) rfl rfl ?_
        refine zv_lng zq_21 zo_21 rfl rfl ?_
        cases hf
        exact zv_r zq_21 zo_21 rfl rfl rfl rfl rfl
      replace hf := zf_ite hf
      obtain ⟨rfl, hf⟩ | ⟨hE1, hf⟩ := hf
      · refine zv_ca (f := (324, [(0, .ref p0), (1, .int p1), (2, .int p2), (3, .int p3), (4, .long p4)], [])) zq_21 zo_21 rfl rfl rfl rfl rfl (zv_cv rfl rfl rfl (zf_ise ho) rfl) (t_f_ColumnVault_nearest _ _ _ _ _ _ _ _ hv) rfl rfl ?_
        refine zv_lng zq_21 zo_21 rfl rfl ?_
        cases hf
        exact zv_r zq_21 zo_21 rfl rfl rfl rfl rfl
      replace hf := zf_ite hf
      obtain ⟨rfl, hf⟩ | ⟨hE2, hf⟩ := hf
      · refine zv_ca (f := (330, [(0, .ref p0), (1, .int p1), (2, .int p2), (3, .int p3), (4, .long p4)], [])) zq_21 zo_21 rfl rfl rfl rfl rfl (zv_cv rfl rfl rfl (zf_ise ho) rfl) (t_f_ColumnVault_nearest _ _ _ _ _ _ _ _ hv) rfl rfl ?_
        refine zv_lng zq_21 zo_21 rfl rfl ?_
        cases hf
        exact zv_r zq_21 zo_21 rfl rfl rfl rfl rfl
      replace hf := zf_ite hf
      obtain ⟨rfl, hf⟩ | ⟨hE3, hf⟩ := hf
      · refine zv_ca (f := (336, [(0, .ref p0), (1, .int p1), (2, .int p2), (3, .int p3), (4, .long p4)], [])) zq_21 zo_21 rfl rfl rfl rfl rfl (zv_cv rfl rfl rfl (zf_ise ho) rfl) (t_f_ColumnVault_nearest _ _ _ _ _ _ _ _ hv) rfl rfl ?_
        refine zv_lng zq_21 zo_21 rfl rfl ?_
        cases hf
        exact zv_r zq_21 zo_21 rfl rfl rfl rfl rfl
      cases hf
  replace hf := zf_ite hf
  obtain ⟨hc, hf⟩ | ⟨hs16, hf⟩ := hf
  · refine zv_sw (f' := (259, [(0, .ref p0), (1, .int p1), (2, .int p2), (3, .int p3), (4, .long p4)], [])) zq_21 zo_21 rfl hc rfl ?_
    refine zv_p (k := 5) (f' := (265, [(0, .ref p0), (1, .int p1), (2, .int p2), (3, .int p3), (4, .long p4)], [.int (0 : Int32), .long p4, .int p3, .int p2, .ref p0])) zq_21 zo_21 (by with_unfolding_all rfl) ?_
    replace hf := zf_be hf
    obtain ⟨_, ho, hf⟩ := hf
    replace hf := zf_b4e hf
    obtain ⟨v49, h50, hv, hf⟩ | ⟨E51, h50, hv, hf⟩ := hf
    · refine zv_c zq_21 zo_21 rfl rfl rfl rfl rfl (zv_cv rfl rfl rfl (zf_ise ho) rfl) (t_f_ColumnVault_nearest _ _ _ _ _ _ _ _ hv) ?_
      cases hf
      exact zv_r zq_21 zo_21 rfl rfl rfl rfl rfl
    · skip
      replace hf := zf_ite hf
      obtain ⟨rfl, hf⟩ | ⟨hE0, hf⟩ := hf
      · refine zv_ca (f := (318, [(0, .ref p0), (1, .int p1), (2, .int p2), (3, .int p3), (4, .long p4)], [])) zq_21 zo_21 rfl rfl rfl rfl rfl (zv_cv rfl rfl rfl (zf_ise ho) rfl) (t_f_ColumnVault_nearest _ _ _ _ _ _ _ _ hv) rfl rfl ?_
        refine zv_lng zq_21 zo_21 rfl rfl ?_
        cases hf
        exact zv_r zq_21 zo_21 rfl rfl rfl rfl rfl
      replace hf := zf_ite hf
      obtain ⟨rfl, hf⟩ | ⟨hE1, hf⟩ := hf
      · refine zv_ca (f := (324, [(0, .ref p0), (1, .int p1), (2, .int p2), (3, .int p3), (4, .long p4)], [])) zq_21 zo_21 rfl rfl rfl rfl rfl (zv_cv rfl rfl rfl (zf_ise ho) rfl) (t_f_ColumnVault_nearest _ _ _ _ _ _ _ _ hv) rfl rfl ?_
        refine zv_lng zq_21 zo_21 rfl rfl ?_
        cases hf
        exact zv_r zq_21 zo_21 rfl rfl rfl rfl rfl
      replace hf := zf_ite hf
      obtain ⟨rfl, hf⟩ | ⟨hE2, hf⟩ := hf
      · refine zv_ca (f := (330, [(0, .ref p0), (1, .int p1), (2, .int p2), (3, .int p3), (4, .long p4)], [])) zq_21 zo_21 rfl rfl rfl rfl rfl (zv_cv rfl rfl rfl (zf_ise ho) rfl) (t_f_ColumnVault_nearest _ _ _ _ _ _ _ _ hv) rfl rfl ?_
        refine zv_lng zq_21 zo_21 rfl rfl ?_
        cases hf
        exact zv_r zq_21 zo_21 rfl rfl rfl rfl rfl
      replace hf := zf_ite hf
      obtain ⟨rfl, hf⟩ | ⟨hE3, hf⟩ := hf
      · refine zv_ca (f := (336, [(0, .ref p0), (1, .int p1), (2, .int p2), (3, .int p3), (4, .long p4)], [])) zq_21 zo_21 rfl rfl rfl rfl rfl (zv_cv rfl rfl rfl (zf_ise ho) rfl) (t_f_ColumnVault_nearest _ _ _ _ _ _ _ _ hv) rfl rfl ?_
        refine zv_lng zq_21 zo_21 rfl rfl ?_
        cases hf
        exact zv_r zq_21 zo_21 rfl rfl rfl rfl rfl
      cases hf
  replace hf := zf_ite hf
  obtain ⟨hc, hf⟩ | ⟨hs17, hf⟩ := hf
  · refine zv_sw (f' := (269, [(0, .ref p0), (1, .int p1), (2, .int p2), (3, .int p3), (4, .long p4)], [])) zq_21 zo_21 rfl hc rfl ?_
    refine zv_p (k := 2) (f' := (272, [(0, .ref p0), (1, .int p1), (2, .int p2), (3, .int p3), (4, .long p4)], [.long p4, .ref p0])) zq_21 zo_21 (by with_unfolding_all rfl) ?_
    replace hf := zf_be hf
    obtain ⟨_, ho, hf⟩ := hf
    replace hf := zf_b4e hf
    obtain ⟨v52, h53, hv, hf⟩ | ⟨E54, h53, hv, hf⟩ := hf
    · refine zv_c zq_21 zo_21 rfl rfl rfl rfl rfl (zv_cv rfl rfl rfl (zf_ise ho) rfl) (t_f_ColumnVault_type _ _ _ _ _ hv) ?_
      refine zv_p (k := 1) (f' := (276, [(0, .ref p0), (1, .int p1), (2, .int p2), (3, .int p3), (4, .long p4)], [.long (v52).toInt64])) zq_21 zo_21 (by with_unfolding_all rfl) ?_
      cases hf
      exact zv_r zq_21 zo_21 rfl rfl rfl rfl rfl
    · skip
      replace hf := zf_ite hf
      obtain ⟨rfl, hf⟩ | ⟨hE0, hf⟩ := hf
      · refine zv_ca (f := (318, [(0, .ref p0), (1, .int p1), (2, .int p2), (3, .int p3), (4, .long p4)], [])) zq_21 zo_21 rfl rfl rfl rfl rfl (zv_cv rfl rfl rfl (zf_ise ho) rfl) (t_f_ColumnVault_type _ _ _ _ _ hv) rfl rfl ?_
        refine zv_lng zq_21 zo_21 rfl rfl ?_
        cases hf
        exact zv_r zq_21 zo_21 rfl rfl rfl rfl rfl
      replace hf := zf_ite hf
      obtain ⟨rfl, hf⟩ | ⟨hE1, hf⟩ := hf
      · refine zv_ca (f := (324, [(0, .ref p0), (1, .int p1), (2, .int p2), (3, .int p3), (4, .long p4)], [])) zq_21 zo_21 rfl rfl rfl rfl rfl (zv_cv rfl rfl rfl (zf_ise ho) rfl) (t_f_ColumnVault_type _ _ _ _ _ hv) rfl rfl ?_
        refine zv_lng zq_21 zo_21 rfl rfl ?_
        cases hf
        exact zv_r zq_21 zo_21 rfl rfl rfl rfl rfl
      replace hf := zf_ite hf
      obtain ⟨rfl, hf⟩ | ⟨hE2, hf⟩ := hf
      · refine zv_ca (f := (330, [(0, .ref p0), (1, .int p1), (2, .int p2), (3, .int p3), (4, .long p4)], [])) zq_21 zo_21 rfl rfl rfl rfl rfl (zv_cv rfl rfl rfl (zf_ise ho) rfl) (t_f_ColumnVault_type _ _ _ _ _ hv) rfl rfl ?_
        refine zv_lng zq_21 zo_21 rfl rfl ?_
        cases hf
        exact zv_r zq_21 zo_21 rfl rfl rfl rfl rfl
      replace hf := zf_ite hf
      obtain ⟨rfl, hf⟩ | ⟨hE3, hf⟩ := hf
      · refine zv_ca (f := (336, [(0, .ref p0), (1, .int p1), (2, .int p2), (3, .int p3), (4, .long p4)], [])) zq_21 zo_21 rfl rfl rfl rfl rfl (zv_cv rfl rfl rfl (zf_ise ho) rfl) (t_f_ColumnVault_type _ _ _ _ _ hv) rfl rfl ?_
        refine zv_lng zq_21 zo_21 rfl rfl ?_
        cases hf
        exact zv_r zq_21 zo_21 rfl rfl rfl rfl rfl
      cases hf
  replace hf := zf_ite hf
  obtain ⟨hc, hf⟩ | ⟨hs18, hf⟩ := hf
  · refine zv_sw (f' := (277, [(0, .ref p0), (1, .int p1), (2, .int p2), (3, .int p3), (4, .long p4)], [])) zq_21 zo_21 rfl hc rfl ?_
    refine zv_p (k := 5) (f' := (283, [(0, .ref p0), (1, .int p1), (2, .int p2), (3, .int p3), (4, .long p4)], [.int (p4).toInt32, .int p3, .int p2, .ref p0])) zq_21 zo_21 (by with_unfolding_all rfl) ?_
    replace hf := zf_be hf
    obtain ⟨_, ho, hf⟩ := hf
    replace hf := zf_b4e hf
    obtain ⟨v55, h56, hv, hf⟩ | ⟨E57, h56, hv, hf⟩ := hf
    · refine zv_c zq_21 zo_21 rfl rfl rfl rfl rfl (zv_cv rfl rfl rfl (zf_ise ho) rfl) (t_f_ColumnVault_alike _ _ _ _ _ _ _ hv) ?_
      refine zv_p (k := 1) (f' := (287, [(0, .ref p0), (1, .int p1), (2, .int p2), (3, .int p3), (4, .long p4)], [.long (v55).toInt64])) zq_21 zo_21 (by with_unfolding_all rfl) ?_
      cases hf
      exact zv_r zq_21 zo_21 rfl rfl rfl rfl rfl
    · skip
      replace hf := zf_ite hf
      obtain ⟨rfl, hf⟩ | ⟨hE0, hf⟩ := hf
      · refine zv_ca (f := (318, [(0, .ref p0), (1, .int p1), (2, .int p2), (3, .int p3), (4, .long p4)], [])) zq_21 zo_21 rfl rfl rfl rfl rfl (zv_cv rfl rfl rfl (zf_ise ho) rfl) (t_f_ColumnVault_alike _ _ _ _ _ _ _ hv) rfl rfl ?_
        refine zv_lng zq_21 zo_21 rfl rfl ?_
        cases hf
        exact zv_r zq_21 zo_21 rfl rfl rfl rfl rfl
      replace hf := zf_ite hf
      obtain ⟨rfl, hf⟩ | ⟨hE1, hf⟩ := hf
      · refine zv_ca (f := (324, [(0, .ref p0), (1, .int p1), (2, .int p2), (3, .int p3), (4, .long p4)], [])) zq_21 zo_21 rfl rfl rfl rfl rfl (zv_cv rfl rfl rfl (zf_ise ho) rfl) (t_f_ColumnVault_alike _ _ _ _ _ _ _ hv) rfl rfl ?_
        refine zv_lng zq_21 zo_21 rfl rfl ?_
        cases hf
        exact zv_r zq_21 zo_21 rfl rfl rfl rfl rfl
      replace hf := zf_ite hf
      obtain ⟨rfl, hf⟩ | ⟨hE2, hf⟩ := hf
      · refine zv_ca (f := (330, [(0, .ref p0), (1, .int p1), (2, .int p2), (3, .int p3), (4, .long p4)], [])) zq_21 zo_21 rfl rfl rfl rfl rfl (zv_cv rfl rfl rfl (zf_ise ho) rfl) (t_f_ColumnVault_alike _ _ _ _ _ _ _ hv) rfl rfl ?_
        refine zv_lng zq_21 zo_21 rfl rfl ?_
        cases hf
        exact zv_r zq_21 zo_21 rfl rfl rfl rfl rfl
      replace hf := zf_ite hf
      obtain ⟨rfl, hf⟩ | ⟨hE3, hf⟩ := hf
      · refine zv_ca (f := (336, [(0, .ref p0), (1, .int p1), (2, .int p2), (3, .int p3), (4, .long p4)], [])) zq_21 zo_21 rfl rfl rfl rfl rfl (zv_cv rfl rfl rfl (zf_ise ho) rfl) (t_f_ColumnVault_alike _ _ _ _ _ _ _ hv) rfl rfl ?_
        refine zv_lng zq_21 zo_21 rfl rfl ?_
        cases hf
        exact zv_r zq_21 zo_21 rfl rfl rfl rfl rfl
      cases hf
  replace hf := zf_ite hf
  obtain ⟨hc, hf⟩ | ⟨hs19, hf⟩ := hf
  · refine zv_sw (f' := (288, [(0, .ref p0), (1, .int p1), (2, .int p2), (3, .int p3), (4, .long p4)], [])) zq_21 zo_21 rfl hc rfl ?_
    refine zv_p (k := 5) (f' := (294, [(0, .ref p0), (1, .int p1), (2, .int p2), (3, .int p3), (4, .long p4)], [.int (p4).toInt32, .int p3, .int p2, .ref p0])) zq_21 zo_21 (by with_unfolding_all rfl) ?_
    replace hf := zf_be hf
    obtain ⟨_, ho, hf⟩ := hf
    replace hf := zf_b4e hf
    obtain ⟨v58, h59, hv, hf⟩ | ⟨E60, h59, hv, hf⟩ := hf
    · refine zv_c zq_21 zo_21 rfl rfl rfl rfl rfl (zv_cv rfl rfl rfl (zf_ise ho) rfl) (t_f_ColumnVault_groupTotal _ _ _ _ _ _ _ hv) ?_
      cases hf
      exact zv_r zq_21 zo_21 rfl rfl rfl rfl rfl
    · skip
      replace hf := zf_ite hf
      obtain ⟨rfl, hf⟩ | ⟨hE0, hf⟩ := hf
      · refine zv_ca (f := (318, [(0, .ref p0), (1, .int p1), (2, .int p2), (3, .int p3), (4, .long p4)], [])) zq_21 zo_21 rfl rfl rfl rfl rfl (zv_cv rfl rfl rfl (zf_ise ho) rfl) (t_f_ColumnVault_groupTotal _ _ _ _ _ _ _ hv) rfl rfl ?_
        refine zv_lng zq_21 zo_21 rfl rfl ?_
        cases hf
        exact zv_r zq_21 zo_21 rfl rfl rfl rfl rfl
      replace hf := zf_ite hf
      obtain ⟨rfl, hf⟩ | ⟨hE1, hf⟩ := hf
      · refine zv_ca (f := (324, [(0, .ref p0), (1, .int p1), (2, .int p2), (3, .int p3), (4, .long p4)], [])) zq_21 zo_21 rfl rfl rfl rfl rfl (zv_cv rfl rfl rfl (zf_ise ho) rfl) (t_f_ColumnVault_groupTotal _ _ _ _ _ _ _ hv) rfl rfl ?_
        refine zv_lng zq_21 zo_21 rfl rfl ?_
        cases hf
        exact zv_r zq_21 zo_21 rfl rfl rfl rfl rfl
      replace hf := zf_ite hf
      obtain ⟨rfl, hf⟩ | ⟨hE2, hf⟩ := hf
      · refine zv_ca (f := (330, [(0, .ref p0), (1, .int p1), (2, .int p2), (3, .int p3), (4, .long p4)], [])) zq_21 zo_21 rfl rfl rfl rfl rfl (zv_cv rfl rfl rfl (zf_ise ho) rfl) (t_f_ColumnVault_groupTotal _ _ _ _ _ _ _ hv) rfl rfl ?_
        refine zv_lng zq_21 zo_21 rfl rfl ?_
        cases hf
        exact zv_r zq_21 zo_21 rfl rfl rfl rfl rfl
      replace hf := zf_ite hf
      obtain ⟨rfl, hf⟩ | ⟨hE3, hf⟩ := hf
      · refine zv_ca (f := (336, [(0, .ref p0), (1, .int p1), (2, .int p2), (3, .int p3), (4, .long p4)], [])) zq_21 zo_21 rfl rfl rfl rfl rfl (zv_cv rfl rfl rfl (zf_ise ho) rfl) (t_f_ColumnVault_groupTotal _ _ _ _ _ _ _ hv) rfl rfl ?_
        refine zv_lng zq_21 zo_21 rfl rfl ?_
        cases hf
        exact zv_r zq_21 zo_21 rfl rfl rfl rfl rfl
      cases hf
  replace hf := zf_ite hf
  obtain ⟨hc, hf⟩ | ⟨hs20, hf⟩ := hf
  · refine zv_sw (f' := (298, [(0, .ref p0), (1, .int p1), (2, .int p2), (3, .int p3), (4, .long p4)], [])) zq_21 zo_21 rfl hc rfl ?_
    refine zv_p (k := 5) (f' := (304, [(0, .ref p0), (1, .int p1), (2, .int p2), (3, .int p3), (4, .long p4)], [.int (p4).toInt32, .int p3, .int p2, .ref p0])) zq_21 zo_21 (by with_unfolding_all rfl) ?_
    replace hf := zf_be hf
    obtain ⟨_, ho, hf⟩ := hf
    replace hf := zf_b4e hf
    obtain ⟨v61, h62, hv, hf⟩ | ⟨E63, h62, hv, hf⟩ := hf
    · refine zv_c zq_21 zo_21 rfl rfl rfl rfl rfl (zv_cv rfl rfl rfl (zf_ise ho) rfl) (t_f_ColumnVault_running _ _ _ _ _ _ _ hv) ?_
      cases hf
      exact zv_r zq_21 zo_21 rfl rfl rfl rfl rfl
    · skip
      replace hf := zf_ite hf
      obtain ⟨rfl, hf⟩ | ⟨hE0, hf⟩ := hf
      · refine zv_ca (f := (318, [(0, .ref p0), (1, .int p1), (2, .int p2), (3, .int p3), (4, .long p4)], [])) zq_21 zo_21 rfl rfl rfl rfl rfl (zv_cv rfl rfl rfl (zf_ise ho) rfl) (t_f_ColumnVault_running _ _ _ _ _ _ _ hv) rfl rfl ?_
        refine zv_lng zq_21 zo_21 rfl rfl ?_
        cases hf
        exact zv_r zq_21 zo_21 rfl rfl rfl rfl rfl
      replace hf := zf_ite hf
      obtain ⟨rfl, hf⟩ | ⟨hE1, hf⟩ := hf
      · refine zv_ca (f := (324, [(0, .ref p0), (1, .int p1), (2, .int p2), (3, .int p3), (4, .long p4)], [])) zq_21 zo_21 rfl rfl rfl rfl rfl (zv_cv rfl rfl rfl (zf_ise ho) rfl) (t_f_ColumnVault_running _ _ _ _ _ _ _ hv) rfl rfl ?_
        refine zv_lng zq_21 zo_21 rfl rfl ?_
        cases hf
        exact zv_r zq_21 zo_21 rfl rfl rfl rfl rfl
      replace hf := zf_ite hf
      obtain ⟨rfl, hf⟩ | ⟨hE2, hf⟩ := hf
      · refine zv_ca (f := (330, [(0, .ref p0), (1, .int p1), (2, .int p2), (3, .int p3), (4, .long p4)], [])) zq_21 zo_21 rfl rfl rfl rfl rfl (zv_cv rfl rfl rfl (zf_ise ho) rfl) (t_f_ColumnVault_running _ _ _ _ _ _ _ hv) rfl rfl ?_
        refine zv_lng zq_21 zo_21 rfl rfl ?_
        cases hf
        exact zv_r zq_21 zo_21 rfl rfl rfl rfl rfl
      replace hf := zf_ite hf
      obtain ⟨rfl, hf⟩ | ⟨hE3, hf⟩ := hf
      · refine zv_ca (f := (336, [(0, .ref p0), (1, .int p1), (2, .int p2), (3, .int p3), (4, .long p4)], [])) zq_21 zo_21 rfl rfl rfl rfl rfl (zv_cv rfl rfl rfl (zf_ise ho) rfl) (t_f_ColumnVault_running _ _ _ _ _ _ _ hv) rfl rfl ?_
        refine zv_lng zq_21 zo_21 rfl rfl ?_
        cases hf
        exact zv_r zq_21 zo_21 rfl rfl rfl rfl rfl
      cases hf
  refine zv_tsd (tt := 308) zq_21 zo_21 rfl (by have e0 := zi_ne (k := 0) rfl hs0; have e1 := zi_ne (k := 1) rfl hs1; have e2 := zi_ne (k := 2) rfl hs2; have e3 := zi_ne (k := 3) rfl hs3; have e4 := zi_ne (k := 4) rfl hs4; have e5 := zi_ne (k := 5) rfl hs5; have e6 := zi_ne (k := 6) rfl hs6; have e7 := zi_ne (k := 7) rfl hs7; have e8 := zi_ne (k := 8) rfl hs8; have e9 := zi_ne (k := 9) rfl hs9; have e10 := zi_ne (k := 10) rfl hs10; have e11 := zi_ne (k := 11) rfl hs11; have e12 := zi_ne (k := 12) rfl hs12; have e13 := zi_ne (k := 13) rfl hs13; have e14 := zi_ne (k := 14) rfl hs14; have e15 := zi_ne (k := 15) rfl hs15; have e16 := zi_ne (k := 16) rfl hs16; have e17 := zi_ne (k := 17) rfl hs17; have e18 := zi_ne (k := 18) rfl hs18; have e19 := zi_ne (k := 19) rfl hs19; have e20 := zi_ne (k := 20) rfl hs20; omega) rfl ?_
  refine zv_p (k := 3) (f' := (311, [(0, .ref p0), (1, .int p1), (2, .int p2), (3, .int p3), (4, .long p4)], [.int p3, .int p2, .ref p0])) zq_21 zo_21 (by with_unfolding_all rfl) ?_
  replace hf := zf_be hf
  obtain ⟨_, ho, hf⟩ := hf
  replace hf := zf_b4e hf
  obtain ⟨v64, h65, hv, hf⟩ | ⟨E66, h65, hv, hf⟩ := hf
  · refine zv_c zq_21 zo_21 rfl rfl rfl rfl rfl (zv_cv rfl rfl rfl (zf_ise ho) rfl) (t_f_ColumnVault_size _ _ _ _ _ _ hv) ?_
    refine zv_p (k := 1) (f' := (315, [(0, .ref p0), (1, .int p1), (2, .int p2), (3, .int p3), (4, .long p4)], [.long (v64).toInt64])) zq_21 zo_21 (by with_unfolding_all rfl) ?_
    cases hf
    exact zv_r zq_21 zo_21 rfl rfl rfl rfl rfl
  · skip
    replace hf := zf_ite hf
    obtain ⟨rfl, hf⟩ | ⟨hE0, hf⟩ := hf
    · refine zv_ca (f := (318, [(0, .ref p0), (1, .int p1), (2, .int p2), (3, .int p3), (4, .long p4)], [])) zq_21 zo_21 rfl rfl rfl rfl rfl (zv_cv rfl rfl rfl (zf_ise ho) rfl) (t_f_ColumnVault_size _ _ _ _ _ _ hv) rfl rfl ?_
      refine zv_lng zq_21 zo_21 rfl rfl ?_
      cases hf
      exact zv_r zq_21 zo_21 rfl rfl rfl rfl rfl
    replace hf := zf_ite hf
    obtain ⟨rfl, hf⟩ | ⟨hE1, hf⟩ := hf
    · refine zv_ca (f := (324, [(0, .ref p0), (1, .int p1), (2, .int p2), (3, .int p3), (4, .long p4)], [])) zq_21 zo_21 rfl rfl rfl rfl rfl (zv_cv rfl rfl rfl (zf_ise ho) rfl) (t_f_ColumnVault_size _ _ _ _ _ _ hv) rfl rfl ?_
      refine zv_lng zq_21 zo_21 rfl rfl ?_
      cases hf
      exact zv_r zq_21 zo_21 rfl rfl rfl rfl rfl
    replace hf := zf_ite hf
    obtain ⟨rfl, hf⟩ | ⟨hE2, hf⟩ := hf
    · refine zv_ca (f := (330, [(0, .ref p0), (1, .int p1), (2, .int p2), (3, .int p3), (4, .long p4)], [])) zq_21 zo_21 rfl rfl rfl rfl rfl (zv_cv rfl rfl rfl (zf_ise ho) rfl) (t_f_ColumnVault_size _ _ _ _ _ _ hv) rfl rfl ?_
      refine zv_lng zq_21 zo_21 rfl rfl ?_
      cases hf
      exact zv_r zq_21 zo_21 rfl rfl rfl rfl rfl
    replace hf := zf_ite hf
    obtain ⟨rfl, hf⟩ | ⟨hE3, hf⟩ := hf
    · refine zv_ca (f := (336, [(0, .ref p0), (1, .int p1), (2, .int p2), (3, .int p3), (4, .long p4)], [])) zq_21 zo_21 rfl rfl rfl rfl rfl (zv_cv rfl rfl rfl (zf_ise ho) rfl) (t_f_ColumnVault_size _ _ _ _ _ _ hv) rfl rfl ?_
      refine zv_lng zq_21 zo_21 rfl rfl ?_
      cases hf
      exact zv_r zq_21 zo_21 rfl rfl rfl rfl rfl
    cases hf
