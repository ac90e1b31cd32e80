set_option maxHeartbeats 1000000 in
def f_ColumnVaultLaw_isWrong_27 (p0 : Nat) (p1 : Nat) (p2 : Int32) (p3 : Int32) (p4 : Int32) (h : zx_H) : Option ((Int32 ⊕ Nat) × zx_H) :=
  zf_b2 (f_ColumnVaultLaw_draw p1 (2 : Int32) h) fun v1 h2 =>
  zf_b2 (f_ColumnVaultLaw_draw p1 (1000000 : Int32) h2) fun v3 h4 =>
  zf_b2 (zf_newr 6 (15 : Int32) h4) fun q5 h6 =>
  zf_b (zf_stA q5 (0 : Int32) (zx_lim + 1 + 604) h6) fun h7 =>
  zf_b (zf_stA q5 (1 : Int32) (zx_lim + 1 + 636) h7) fun h8 =>
  zf_b (zf_stA q5 (2 : Int32) (zx_lim + 1 + 638) h8) fun h9 =>
  zf_b (zf_stA q5 (3 : Int32) (zx_lim + 1 + 640) h9) fun h10 =>
  zf_b (zf_stA q5 (4 : Int32) (zx_lim + 1 + 600) h10) fun h11 =>
  zf_b (zf_stA q5 (5 : Int32) (zx_lim + 1 + 642) h11) fun h12 =>
  zf_b (zf_stA q5 (6 : Int32) (zx_lim + 1 + 644) h12) fun h13 =>
  zf_b (zf_stA q5 (7 : Int32) (zx_lim + 1 + 646) h13) fun h14 =>
  zf_b (zf_stA q5 (8 : Int32) (zx_lim + 1 + 648) h14) fun h15 =>
  zf_b (zf_stA q5 (9 : Int32) (zx_lim + 1 + 650) h15) fun h16 =>
  zf_b (zf_stA q5 (10 : Int32) (zx_lim + 1 + 652) h16) fun h17 =>
  zf_b (zf_stA q5 (11 : Int32) (zx_lim + 1 + 654) h17) fun h18 =>
  zf_b (zf_stA q5 (12 : Int32) (zx_lim + 1 + 656) h18) fun h19 =>
  zf_b (zf_stA q5 (13 : Int32) (zx_lim + 1 + 658) h19) fun h20 =>
  zf_b (zf_stA q5 (14 : Int32) (zx_lim + 1 + 660) h20) fun h21 =>
  zf_b2 (zf_newr 6 (15 : Int32) h21) fun q22 h23 =>
  zf_b (zf_stA q22 (0 : Int32) (zx_lim + 1 + 604) h23) fun h24 =>
  zf_b2 (zf_new 1 h24) fun q25 h26 =>
  zf_b2 (f_StringBuilder_init q25 h26) fun _ h28 =>
  zf_b (zf_is 1 q25 h28) fun _ =>
  zf_b2 (f_StringBuilder_appendq3 q25 (zx_lim + 1 + 604) h28) fun v29 h30 =>
  zf_b (zf_is 1 v29 h30) fun _ =>
  zf_b2 (f_StringBuilder_appendq2 v29 ((1000001 : Int32) + (v1 * v3)) h30) fun v31 h32 =>
  zf_b (zf_is 1 v31 h32) fun _ =>
  zf_b2 (f_StringBuilder_toString v31 h32) fun v33 h34 =>
  zf_b (zf_stA q22 (1 : Int32) v33 h34) fun h35 =>
  zf_b (zf_stA q22 (2 : Int32) (zx_lim + 1 + 662) h35) fun h36 =>
  zf_b (zf_stA q22 (3 : Int32) (zx_lim + 1 + 664) h36) fun h37 =>
  zf_b (zf_stA q22 (4 : Int32) (zx_lim + 1 + 666) h37) fun h38 =>
  zf_b (zf_stA q22 (5 : Int32) (zx_lim + 1 + 604) h38) fun h39 =>
  zf_b (zf_stA q22 (6 : Int32) (zx_lim + 1 + 668) h39) fun h40 =>
  zf_b (zf_stA q22 (7 : Int32) (zx_lim + 1 + 670) h40) fun h41 =>
  zf_b (zf_stA q22 (8 : Int32) (zx_lim + 1 + 672) h41) fun h42 =>
  zf_b (zf_stA q22 (9 : Int32) (zx_lim + 1 + 674) h42) fun h43 =>
  zf_b (zf_stA q22 (10 : Int32) (zx_lim + 1 + 626) h43) fun h44 =>
  zf_b (zf_stA q22 (11 : Int32) (zx_lim + 1 + 604) h44) fun h45 =>
  zf_b (zf_stA q22 (12 : Int32) (zx_lim + 1 + 676) h45) fun h46 =>
  zf_b (zf_stA q22 (13 : Int32) (zx_lim + 1 + 624) h46) fun h47 =>
  zf_b2 (zf_new 1 h47) fun q48 h49 =>
  zf_b2 (f_StringBuilder_init q48 h49) fun _ h51 =>
  zf_b (zf_is 1 q48 h51) fun _ =>
  zf_b2 (f_StringBuilder_appendq3 q48 (zx_lim + 1 + 600) h51) fun v52 h53 =>
  zf_b (zf_is 1 v52 h53) fun _ =>
  zf_b2 (f_StringBuilder_appendq2 v52 p3 h53) fun v54 h55 =>
  zf_b (zf_is 1 v54 h55) fun _ =>
  zf_b2 (f_StringBuilder_appendq3 v54 (zx_lim + 1 + 678) h55) fun v56 h57 =>
  zf_b (zf_is 1 v56 h57) fun _ =>
  zf_b2 (f_StringBuilder_toString v56 h57) fun v58 h59 =>
  zf_b (zf_stA q22 (14 : Int32) v58 h59) fun h60 =>
  zf_b2 (zf_newa .int 1 (15 : Int32) h60) fun q61 h62 =>
  zf_b (zf_stI q61 (0 : Int32) (1 : Int32) h62) fun h63 =>
  zf_b (zf_stI q61 (1 : Int32) (2 : Int32) h63) fun h64 =>
  zf_b (zf_stI q61 (2 : Int32) (1 : Int32) h64) fun h65 =>
  zf_b (zf_stI q61 (3 : Int32) (1 : Int32) h65) fun h66 =>
  zf_b (zf_stI q61 (4 : Int32) (1 : Int32) h66) fun h67 =>
  zf_b (zf_stI q61 (5 : Int32) (1 : Int32) h67) fun h68 =>
  zf_b (zf_stI q61 (6 : Int32) (2 : Int32) h68) fun h69 =>
  zf_b (zf_stI q61 (7 : Int32) (2 : Int32) h69) fun h70 =>
  zf_b (zf_stI q61 (8 : Int32) (2 : Int32) h70) fun h71 =>
  zf_b (zf_stI q61 (9 : Int32) (2 : Int32) h71) fun h72 =>
  zf_b (zf_stI q61 (10 : Int32) (1 : Int32) h72) fun h73 =>
  zf_b (zf_stI q61 (11 : Int32) (1 : Int32) h73) fun h74 =>
  zf_b (zf_stI q61 (12 : Int32) (1 : Int32) h74) fun h75 =>
  zf_b (zf_stI q61 (13 : Int32) (1 : Int32) h75) fun h76 =>
  zf_b (zf_stI q61 (14 : Int32) (2 : Int32) h76) fun h77 =>
  zf_b2 (zf_newa .int 1 (15 : Int32) h77) fun q78 h79 =>
  zf_b (zf_stI q78 (0 : Int32) (0 : Int32) h79) fun h80 =>
  zf_b (zf_stI q78 (1 : Int32) (5 : Int32) h80) fun h81 =>
  zf_b (zf_stI q78 (2 : Int32) (7 : Int32) h81) fun h82 =>
  zf_b (zf_stI q78 (3 : Int32) (3 : Int32) h82) fun h83 =>
  zf_b (zf_stI q78 (4 : Int32) (1 : Int32) h83) fun h84 =>
  zf_b (zf_stI q78 (5 : Int32) (8 : Int32) h84) fun h85 =>
  zf_b (zf_stI q78 (6 : Int32) (18 : Int32) h85) fun h86 =>
  zf_b (zf_stI q78 (7 : Int32) (3 : Int32) h86) fun h87 =>
  zf_b (zf_stI q78 (8 : Int32) (6 : Int32) h87) fun h88 =>
  zf_b (zf_stI q78 (9 : Int32) (5 : Int32) h88) fun h89 =>
  zf_b (zf_stI q78 (10 : Int32) (9 : Int32) h89) fun h90 =>
  zf_b (zf_stI q78 (11 : Int32) (11 : Int32) h90) fun h91 =>
  zf_b (zf_stI q78 (12 : Int32) (7 : Int32) h91) fun h92 =>
  zf_b (zf_stI q78 (13 : Int32) (11 : Int32) h92) fun h93 =>
  zf_b (zf_stI q78 (14 : Int32) (9 : Int32) h93) fun h94 =>
  zf_b2 (f_ColumnVaultLaw_draw p1 (15 : Int32) h94) fun v95 h96 =>
  if ¬ v95 = (14 : Int32) then
    f_ColumnVaultLaw_isWrong_475 p0 p2 p4 q5 q22 q61 q78 v95 h96
  else
    if p3 ≤ (9 : Int32) then
      f_ColumnVaultLaw_isWrong_475 p0 p2 p4 q5 q22 q61 q78 v95 h96
    else
      some (.inl (1 : Int32), h96)
set_option maxHeartbeats 4000000 in
set_option maxRecDepth 400000 in
theorem t_f_ColumnVaultLaw_isWrong_27 {sc : (Nat × (Nat → Int32)) × Bool} {d : Nat} (p0 : Nat) (p1 : Nat) (p2 : Int32) (p3 : Int32) (p4 : Int32) (h : zx_H) (r : (Int32 ⊕ Nat)) (h' : zx_H) (hf : f_ColumnVaultLaw_isWrong_27 p0 p1 p2 p3 p4 h = some (r, h')) : zx_T sc (d + 126) 283 (27, [(0, .ref p0), (1, .ref p1), (2, .int p2), (3, .int p3)], [.int p4]) h (zf_oIx r) h' := by
  unfold f_ColumnVaultLaw_isWrong_27 at hf
  refine zv_p (k := 1) (f' := (29, [(4, .int p4), (0, .ref p0), (1, .ref p1), (2, .int p2), (3, .int p3)], [])) zq_283 zo_283 (by with_unfolding_all rfl) ?_
  refine zv_ldiw zq_283 zo_283 rfl rfl rfl ?_
  refine zv_p (k := 2) (f' := (34, [(4, .int p4), (0, .ref p0), (1, .ref p1), (2, .int p2), (3, .int p3)], [.int (2 : Int32), .ref p1, .int (1000001 : Int32)])) zq_283 zo_283 (by with_unfolding_all rfl) ?_
  replace hf := zf_b2e hf
  obtain ⟨v1, h2, hv, hf⟩ := hf
  refine zv_c zq_283 zo_283 rfl rfl rfl rfl rfl rfl (t_f_ColumnVaultLaw_draw _ _ _ _ _ hv) ?_
  refine zv_p (k := 1) (f' := (38, [(4, .int p4), (0, .ref p0), (1, .ref p1), (2, .int p2), (3, .int p3)], [.ref p1, .int v1, .int (1000001 : Int32)])) zq_283 zo_283 (by with_unfolding_all rfl) ?_
  refine zv_ldi zq_283 zo_283 rfl rfl rfl ?_
  replace hf := zf_b2e hf
  obtain ⟨v3, h4, hv, hf⟩ := hf
  refine zv_c zq_283 zo_283 rfl rfl rfl rfl rfl rfl (t_f_ColumnVaultLaw_draw _ _ _ _ _ hv) ?_
  refine zv_p (k := 4) (f' := (49, [(5, .int ((1000001 : Int32) + (v1 * v3))), (4, .int p4), (0, .ref p0), (1, .ref p1), (2, .int p2), (3, .int p3)], [.int (15 : Int32)])) zq_283 zo_283 (by with_unfolding_all rfl) ?_
  replace hf := zf_b2e hf
  obtain ⟨q5, h6, hv, hf⟩ := hf
  refine zv_newr zq_283 zo_283 rfl rfl rfl hv ?_
  refine zv_p (k := 2) (f' := (54, [(5, .int ((1000001 : Int32) + (v1 * v3))), (4, .int p4), (0, .ref p0), (1, .ref p1), (2, .int p2), (3, .int p3)], [.int (0 : Int32), .ref q5, .ref q5])) zq_283 zo_283 (by with_unfolding_all rfl) ?_
  refine zv_str zq_283 zo_283 rfl rfl ?_
  replace hf := zf_be hf
  obtain ⟨h7, hv, hf⟩ := hf
  refine zv_stA zq_283 zo_283 rfl hv ?_
  refine zv_p (k := 2) (f' := (59, [(5, .int ((1000001 : Int32) + (v1 * v3))), (4, .int p4), (0, .ref p0), (1, .ref p1), (2, .int p2), (3, .int p3)], [.int (1 : Int32), .ref q5, .ref q5])) zq_283 zo_283 (by with_unfolding_all rfl) ?_
  refine zv_strw zq_283 zo_283 rfl rfl ?_
  replace hf := zf_be hf
  obtain ⟨h8, hv, hf⟩ := hf
  refine zv_stA zq_283 zo_283 rfl hv ?_
  refine zv_p (k := 2) (f' := (65, [(5, .int ((1000001 : Int32) + (v1 * v3))), (4, .int p4), (0, .ref p0), (1, .ref p1), (2, .int p2), (3, .int p3)], [.int (2 : Int32), .ref q5, .ref q5])) zq_283 zo_283 (by with_unfolding_all rfl) ?_
  refine zv_strw zq_283 zo_283 rfl rfl ?_
  replace hf := zf_be hf
  obtain ⟨h9, hv, hf⟩ := hf
  refine zv_stA zq_283 zo_283 rfl hv ?_
  refine zv_p (k := 2) (f' := (71, [(5, .int ((1000001 : Int32) + (v1 * v3))), (4, .int p4), (0, .ref p0), (1, .ref p1), (2, .int p2), (3, .int p3)], [.int (3 : Int32), .ref q5, .ref q5])) zq_283 zo_283 (by with_unfolding_all rfl) ?_
  refine zv_strw zq_283 zo_283 rfl rfl ?_
  replace hf := zf_be hf
  obtain ⟨h10, hv, hf⟩ := hf
  refine zv_stA zq_283 zo_283 rfl hv ?_
  refine zv_p (k := 2) (f' := (77, [(5, .int ((1000001 : Int32) + (v1 * v3))), (4, .int p4), (0, .ref p0), (1, .ref p1), (2, .int p2), (3, .int p3)], [.int (4 : Int32), .ref q5, .ref q5])) zq_283 zo_283 (by with_unfolding_all rfl) ?_
  refine zv_str zq_283 zo_283 rfl rfl ?_
  replace hf := zf_be hf
  obtain ⟨h11, hv, hf⟩ := hf
  refine zv_stA zq_283 zo_283 rfl hv ?_
  refine zv_p (k := 2) (f' := (82, [(5, .int ((1000001 : Int32) + (v1 * v3))), (4, .int p4), (0, .ref p0), (1, .ref p1), (2, .int p2), (3, .int p3)], [.int (5 : Int32), .ref q5, .ref q5])) zq_283 zo_283 (by with_unfolding_all rfl) ?_
  refine zv_strw zq_283 zo_283 rfl rfl ?_
  replace hf := zf_be hf
  obtain ⟨h12, hv, hf⟩ := hf
  refine zv_stA zq_283 zo_283 rfl hv ?_
  refine zv_p (k := 2) (f' := (89, [(5, .int ((1000001 : Int32) + (v1 * v3))), (4, .int p4), (0, .ref p0), (1, .ref p1), (2, .int p2), (3, .int p3)], [.int (6 : Int32), .ref q5, .ref q5])) zq_283 zo_283 (by with_unfolding_all rfl) ?_
  refine zv_strw zq_283 zo_283 rfl rfl ?_
  replace hf := zf_be hf
  obtain ⟨h13, hv, hf⟩ := hf
  refine zv_stA zq_283 zo_283 rfl hv ?_
  refine zv_p (k := 2) (f' := (96, [(5, .int ((1000001 : Int32) + (v1 * v3))), (4, .int p4), (0, .ref p0), (1, .ref p1), (2, .int p2), (3, .int p3)], [.int (7 : Int32), .ref q5, .ref q5])) zq_283 zo_283 (by with_unfolding_all rfl) ?_
  refine zv_strw zq_283 zo_283 rfl rfl ?_
  replace hf := zf_be hf
  obtain ⟨h14, hv, hf⟩ := hf
  refine zv_stA zq_283 zo_283 rfl hv ?_
  refine zv_p (k := 2) (f' := (103, [(5, .int ((1000001 : Int32) + (v1 * v3))), (4, .int p4), (0, .ref p0), (1, .ref p1), (2, .int p2), (3, .int p3)], [.int (8 : Int32), .ref q5, .ref q5])) zq_283 zo_283 (by with_unfolding_all rfl) ?_
  refine zv_strw zq_283 zo_283 rfl rfl ?_
  replace hf := zf_be hf
  obtain ⟨h15, hv, hf⟩ := hf
  refine zv_stA zq_283 zo_283 rfl hv ?_
  refine zv_p (k := 2) (f' := (110, [(5, .int ((1000001 : Int32) + (v1 * v3))), (4, .int p4), (0, .ref p0), (1, .ref p1), (2, .int p2), (3, .int p3)], [.int (9 : Int32), .ref q5, .ref q5])) zq_283 zo_283 (by with_unfolding_all rfl) ?_
  refine zv_strw zq_283 zo_283 rfl rfl ?_
  replace hf := zf_be hf
  obtain ⟨h16, hv, hf⟩ := hf
  refine zv_stA zq_283 zo_283 rfl hv ?_
  refine zv_p (k := 2) (f' := (117, [(5, .int ((1000001 : Int32) + (v1 * v3))), (4, .int p4), (0, .ref p0), (1, .ref p1), (2, .int p2), (3, .int p3)], [.int (10 : Int32), .ref q5, .ref q5])) zq_283 zo_283 (by with_unfolding_all rfl) ?_
  refine zv_strw zq_283 zo_283 rfl rfl ?_
  replace hf := zf_be hf
  obtain ⟨h17, hv, hf⟩ := hf
  refine zv_stA zq_283 zo_283 rfl hv ?_
  refine zv_p (k := 2) (f' := (124, [(5, .int ((1000001 : Int32) + (v1 * v3))), (4, .int p4), (0, .ref p0), (1, .ref p1), (2, .int p2), (3, .int p3)], [.int (11 : Int32), .ref q5, .ref q5])) zq_283 zo_283 (by with_unfolding_all rfl) ?_
  refine zv_strw zq_283 zo_283 rfl rfl ?_
  replace hf := zf_be hf
  obtain ⟨h18, hv, hf⟩ := hf
  refine zv_stA zq_283 zo_283 rfl hv ?_
  refine zv_p (k := 2) (f' := (131, [(5, .int ((1000001 : Int32) + (v1 * v3))), (4, .int p4), (0, .ref p0), (1, .ref p1), (2, .int p2), (3, .int p3)], [.int (12 : Int32), .ref q5, .ref q5])) zq_283 zo_283 (by with_unfolding_all rfl) ?_
  refine zv_strw zq_283 zo_283 rfl rfl ?_
  replace hf := zf_be hf
  obtain ⟨h19, hv, hf⟩ := hf
  refine zv_stA zq_283 zo_283 rfl hv ?_
  refine zv_p (k := 2) (f' := (138, [(5, .int ((1000001 : Int32) + (v1 * v3))), (4, .int p4), (0, .ref p0), (1, .ref p1), (2, .int p2), (3, .int p3)], [.int (13 : Int32), .ref q5, .ref q5])) zq_283 zo_283 (by with_unfolding_all rfl) ?_
  refine zv_strw zq_283 zo_283 rfl rfl ?_
  replace hf := zf_be hf
  obtain ⟨h20, hv, hf⟩ := hf
  refine zv_stA zq_283 zo_283 rfl hv ?_
  refine zv_p (k := 2) (f' := (145, [(5, .int ((1000001 : Int32) + (v1 * v3))), (4, .int p4), (0, .ref p0), (1, .ref p1), (2, .int p2), (3, .int p3)], [.int (14 : Int32), .ref q5, .ref q5])) zq_283 zo_283 (by with_unfolding_all rfl) ?_
  refine zv_strw zq_283 zo_283 rfl rfl ?_
  replace hf := zf_be hf
  obtain ⟨h21, hv, hf⟩ := hf
  refine zv_stA zq_283 zo_283 rfl hv ?_
  refine zv_p (k := 2) (f' := (153, [(6, .ref q5), (5, .int ((1000001 : Int32) + (v1 * v3))), (4, .int p4), (0, .ref p0), (1, .ref p1), (2, .int p2), (3, .int p3)], [.int (15 : Int32)])) zq_283 zo_283 (by with_unfolding_all rfl) ?_
  replace hf := zf_b2e hf
  obtain ⟨q22, h23, hv, hf⟩ := hf
  refine zv_newr zq_283 zo_283 rfl rfl rfl hv ?_
  refine zv_p (k := 2) (f' := (158, [(6, .ref q5), (5, .int ((1000001 : Int32) + (v1 * v3))), (4, .int p4), (0, .ref p0), (1, .ref p1), (2, .int p2), (3, .int p3)], [.int (0 : Int32), .ref q22, .ref q22])) zq_283 zo_283 (by with_unfolding_all rfl) ?_
  refine zv_str zq_283 zo_283 rfl rfl ?_
  replace hf := zf_be hf
  obtain ⟨h24, hv, hf⟩ := hf
  refine zv_stA zq_283 zo_283 rfl hv ?_
  refine zv_p (k := 2) (f' := (163, [(6, .ref q5), (5, .int ((1000001 : Int32) + (v1 * v3))), (4, .int p4), (0, .ref p0), (1, .ref p1), (2, .int p2), (3, .int p3)], [.int (1 : Int32), .ref q22, .ref q22])) zq_283 zo_283 (by with_unfolding_all rfl) ?_
  replace hf := zf_b2e hf
  obtain ⟨q25, h26, hv, hf⟩ := hf
  refine zv_new zq_283 zo_283 rfl rfl rfl hv ?_
  refine zv_p (k := 1) (f' := (167, [(6, .ref q5), (5, .int ((1000001 : Int32) + (v1 * v3))), (4, .int p4), (0, .ref p0), (1, .ref p1), (2, .int p2), (3, .int p3)], [.ref q25, .ref q25, .int (1 : Int32), .ref q22, .ref q22])) zq_283 zo_283 (by with_unfolding_all rfl) ?_
  replace hf := zf_b2e hf
  obtain ⟨v27, h28, hv, hf⟩ := hf
  refine zv_c zq_283 zo_283 rfl rfl rfl rfl rfl rfl (t_f_StringBuilder_init _ _ _ _ hv) ?_
  refine zv_str zq_283 zo_283 rfl rfl ?_
  replace hf := zf_be hf
  obtain ⟨_, ho, hf⟩ := hf
  replace hf := zf_b2e hf
  obtain ⟨v29, h30, hv, hf⟩ := hf
  refine zv_c zq_283 zo_283 rfl rfl rfl rfl rfl (zv_cv rfl rfl rfl (zf_ise ho) rfl) (t_f_StringBuilder_appendq3 _ _ _ _ _ hv) ?_
  refine zv_p (k := 1) (f' := (177, [(6, .ref q5), (5, .int ((1000001 : Int32) + (v1 * v3))), (4, .int p4), (0, .ref p0), (1, .ref p1), (2, .int p2), (3, .int p3)], [.int ((1000001 : Int32) + (v1 * v3)), .ref v29, .int (1 : Int32), .ref q22, .ref q22])) zq_283 zo_283 (by with_unfolding_all rfl) ?_
  replace hf := zf_be hf
  obtain ⟨_, ho, hf⟩ := hf
  replace hf := zf_b2e hf
  obtain ⟨v31, h32, hv, hf⟩ := hf
  refine zv_c zq_283 zo_283 rfl rfl rfl rfl rfl (zv_cv rfl rfl rfl (zf_ise ho) rfl) (t_f_StringBuilder_appendq2 _ _ _ _ _ hv) ?_
  replace hf := zf_be hf
  obtain ⟨_, ho, hf⟩ := hf
  replace hf := zf_b2e hf
  obtain ⟨v33, h34, hv, hf⟩ := hf
  refine zv_c zq_283 zo_283 rfl rfl rfl rfl rfl (zv_cv rfl rfl rfl (zf_ise ho) rfl) (t_f_StringBuilder_toString _ _ _ _ hv) ?_
  replace hf := zf_be hf
  obtain ⟨h35, hv, hf⟩ := hf
  refine zv_stA zq_283 zo_283 rfl hv ?_
  refine zv_p (k := 2) (f' := (186, [(6, .ref q5), (5, .int ((1000001 : Int32) + (v1 * v3))), (4, .int p4), (0, .ref p0), (1, .ref p1), (2, .int p2), (3, .int p3)], [.int (2 : Int32), .ref q22, .ref q22])) zq_283 zo_283 (by with_unfolding_all rfl) ?_
  refine zv_strw zq_283 zo_283 rfl rfl ?_
  replace hf := zf_be hf
  obtain ⟨h36, hv, hf⟩ := hf
  refine zv_stA zq_283 zo_283 rfl hv ?_
  refine zv_p (k := 2) (f' := (192, [(6, .ref q5), (5, .int ((1000001 : Int32) + (v1 * v3))), (4, .int p4), (0, .ref p0), (1, .ref p1), (2, .int p2), (3, .int p3)], [.int (3 : Int32), .ref q22, .ref q22])) zq_283 zo_283 (by with_unfolding_all rfl) ?_
  refine zv_strw zq_283 zo_283 rfl rfl ?_
  replace hf := zf_be hf
  obtain ⟨h37, hv, hf⟩ := hf
  refine zv_stA zq_283 zo_283 rfl hv ?_
  refine zv_p (k := 2) (f' := (198, [(6, .ref q5), (5, .int ((1000001 : Int32) + (v1 * v3))), (4, .int p4), (0, .ref p0), (1, .ref p1), (2, .int p2), (3, .int p3)], [.int (4 : Int32), .ref q22, .ref q22])) zq_283 zo_283 (by with_unfolding_all rfl) ?_
  refine zv_strw zq_283 zo_283 rfl rfl ?_
  replace hf := zf_be hf
  obtain ⟨h38, hv, hf⟩ := hf
  refine zv_stA zq_283 zo_283 rfl hv ?_
  refine zv_p (k := 2) (f' := (204, [(6, .ref q5), (5, .int ((1000001 : Int32) + (v1 * v3))), (4, .int p4), (0, .ref p0), (1, .ref p1), (2, .int p2), (3, .int p3)], [.int (5 : Int32), .ref q22, .ref q22])) zq_283 zo_283 (by with_unfolding_all rfl) ?_
  refine zv_str zq_283 zo_283 rfl rfl ?_
  replace hf := zf_be hf
  obtain ⟨h39, hv, hf⟩ := hf
  refine zv_stA zq_283 zo_283 rfl hv ?_
  refine zv_p (k := 2) (f' := (210, [(6, .ref q5), (5, .int ((1000001 : Int32) + (v1 * v3))), (4, .int p4), (0, .ref p0), (1, .ref p1), (2, .int p2), (3, .int p3)], [.int (6 : Int32), .ref q22, .ref q22])) zq_283 zo_283 (by with_unfolding_all rfl) ?_
  refine zv_strw zq_283 zo_283 rfl rfl ?_
  replace hf := zf_be hf
  obtain ⟨h40, hv, hf⟩ := hf
  refine zv_stA zq_283 zo_283 rfl hv ?_
  refine zv_p (k := 2) (f' := (217, [(6, .ref q5), (5, .int ((1000001 : Int32) + (v1 * v3))), (4, .int p4), (0, .ref p0), (1, .ref p1), (2, .int p2), (3, .int p3)], [.int (7 : Int32), .ref q22, .ref q22])) zq_283 zo_283 (by with_unfolding_all rfl) ?_
  refine zv_strw zq_283 zo_283 rfl rfl ?_
  replace hf := zf_be hf
  obtain ⟨h41, hv, hf⟩ := hf
  refine zv_stA zq_283 zo_283 rfl hv ?_
  refine zv_p (k := 2) (f' := (224, [(6, .ref q5), (5, .int ((1000001 : Int32) + (v1 * v3))), (4, .int p4), (0, .ref p0), (1, .ref p1), (2, .int p2), (3, .int p3)], [.int (8 : Int32), .ref q22, .ref q22])) zq_283 zo_283 (by with_unfolding_all rfl) ?_
  refine zv_strw zq_283 zo_283 rfl rfl ?_
  replace hf := zf_be hf
  obtain ⟨h42, hv, hf⟩ := hf
  refine zv_stA zq_283 zo_283 rfl hv ?_
  refine zv_p (k := 2) (f' := (231, [(6, .ref q5), (5, .int ((1000001 : Int32) + (v1 * v3))), (4, .int p4), (0, .ref p0), (1, .ref p1), (2, .int p2), (3, .int p3)], [.int (9 : Int32), .ref q22, .ref q22])) zq_283 zo_283 (by with_unfolding_all rfl) ?_
  refine zv_strw zq_283 zo_283 rfl rfl ?_
  replace hf := zf_be hf
  obtain ⟨h43, hv, hf⟩ := hf
  refine zv_stA zq_283 zo_283 rfl hv ?_
  refine zv_p (k := 2) (f' := (238, [(6, .ref q5), (5, .int ((1000001 : Int32) + (v1 * v3))), (4, .int p4), (0, .ref p0), (1, .ref p1), (2, .int p2), (3, .int p3)], [.int (10 : Int32), .ref q22, .ref q22])) zq_283 zo_283 (by with_unfolding_all rfl) ?_
  refine zv_strw zq_283 zo_283 rfl rfl ?_
  replace hf := zf_be hf
  obtain ⟨h44, hv, hf⟩ := hf
  refine zv_stA zq_283 zo_283 rfl hv ?_
  refine zv_p (k := 2) (f' := (245, [(6, .ref q5), (5, .int ((1000001 : Int32) + (v1 * v3))), (4, .int p4), (0, .ref p0), (1, .ref p1), (2, .int p2), (3, .int p3)], [.int (11 : Int32), .ref q22, .ref q22])) zq_283 zo_283 (by with_unfolding_all rfl) ?_
  refine zv_str zq_283 zo_283 rfl rfl ?_
  replace hf := zf_be hf
  obtain ⟨h45, hv, hf⟩ := hf
  refine zv_stA zq_283 zo_283 rfl hv ?_
  refine zv_p (k := 2) (f' := (251, [(6, .ref q5), (5, .int ((1000001 : Int32) + (v1 * v3))), (4, .int p4), (0, .ref p0), (1, .ref p1), (2, .int p2), (3, .int p3)], [.int (12 : Int32), .ref q22, .ref q22])) zq_283 zo_283 (by with_unfolding_all rfl) ?_
  refine zv_strw zq_283 zo_283 rfl rfl ?_
  replace hf := zf_be hf
  obtain ⟨h46, hv, hf⟩ := hf
  refine zv_stA zq_283 zo_283 rfl hv ?_
  refine zv_p (k := 2) (f' := (258, [(6, .ref q5), (5, .int ((1000001 : Int32) + (v1 * v3))), (4, .int p4), (0, .ref p0), (1, .ref p1), (2, .int p2), (3, .int p3)], [.int (13 : Int32), .ref q22, .ref q22])) zq_283 zo_283 (by with_unfolding_all rfl) ?_
  refine zv_strw zq_283 zo_283 rfl rfl ?_
  replace hf := zf_be hf
  obtain ⟨h47, hv, hf⟩ := hf
  refine zv_stA zq_283 zo_283 rfl hv ?_
  refine zv_p (k := 2) (f' := (265, [(6, .ref q5), (5, .int ((1000001 : Int32) + (v1 * v3))), (4, .int p4), (0, .ref p0), (1, .ref p1), (2, .int p2), (3, .int p3)], [.int (14 : Int32), .ref q22, .ref q22])) zq_283 zo_283 (by with_unfolding_all rfl) ?_
  replace hf := zf_b2e hf
  obtain ⟨q48, h49, hv, hf⟩ := hf
  refine zv_new zq_283 zo_283 rfl rfl rfl hv ?_
  refine zv_p (k := 1) (f' := (269, [(6, .ref q5), (5, .int ((1000001 : Int32) + (v1 * v3))), (4, .int p4), (0, .ref p0), (1, .ref p1), (2, .int p2), (3, .int p3)], [.ref q48, .ref q48, .int (14 : Int32), .ref q22, .ref q22])) zq_283 zo_283 (by with_unfolding_all rfl) ?_
  replace hf := zf_b2e hf
  obtain ⟨v50, h51, hv, hf⟩ := hf
  refine zv_c zq_283 zo_283 rfl rfl rfl rfl rfl rfl (t_f_StringBuilder_init _ _ _ _ hv) ?_
  refine zv_str zq_283 zo_283 rfl rfl ?_
  replace hf := zf_be hf
  obtain ⟨_, ho, hf⟩ := hf
  replace hf := zf_b2e hf
  obtain ⟨v52, h53, hv, hf⟩ := hf
  refine zv_c zq_283 zo_283 rfl rfl rfl rfl rfl (zv_cv rfl rfl rfl (zf_ise ho) rfl) (t_f_StringBuilder_appendq3 _ _ _ _ _ hv) ?_
  refine zv_p (k := 1) (f' := (278, [(6, .ref q5), (5, .int ((1000001 : Int32) + (v1 * v3))), (4, .int p4), (0, .ref p0), (1, .ref p1), (2, .int p2), (3, .int p3)], [.int p3, .ref v52, .int (14 : Int32), .ref q22, .ref q22])) zq_283 zo_283 (by with_unfolding_all rfl) ?_
  replace hf := zf_be hf
  obtain ⟨_, ho, hf⟩ := hf
  replace hf := zf_b2e hf
  obtain ⟨v54, h55, hv, hf⟩ := hf
  refine zv_c zq_283 zo_283 rfl rfl rfl rfl rfl (zv_cv rfl rfl rfl (zf_ise ho) rfl) (t_f_StringBuilder_appendq2 _ _ _ _ _ hv) ?_
  refine zv_strw zq_283 zo_283 rfl rfl ?_
  replace hf := zf_be hf
  obtain ⟨_, ho, hf⟩ := hf
  replace hf := zf_b2e hf
  obtain ⟨v56, h57, hv, hf⟩ := hf
  refine zv_c zq_283 zo_283 rfl rfl rfl rfl rfl (zv_cv rfl rfl rfl (zf_ise ho) rfl) (t_f_StringBuilder_appendq3 _ _ _ _ _ hv) ?_
  replace hf := zf_be hf
  obtain ⟨_, ho, hf⟩ := hf
  replace hf := zf_b2e hf
  obtain ⟨v58, h59, hv, hf⟩ := hf
  refine zv_c zq_283 zo_283 rfl rfl rfl rfl rfl (zv_cv rfl rfl rfl (zf_ise ho) rfl) (t_f_StringBuilder_toString _ _ _ _ hv) ?_
  replace hf := zf_be hf
  obtain ⟨h60, hv, hf⟩ := hf
  refine zv_stA zq_283 zo_283 rfl hv ?_
  refine zv_p (k := 2) (f' := (295, [(7, .ref q22), (6, .ref q5), (5, .int ((1000001 : Int32) + (v1 * v3))), (4, .int p4), (0, .ref p0), (1, .ref p1), (2, .int p2), (3, .int p3)], [.int (15 : Int32)])) zq_283 zo_283 (by with_unfolding_all rfl) ?_
  replace hf := zf_b2e hf
  obtain ⟨q61, h62, hv, hf⟩ := hf
  refine zv_newa zq_283 zo_283 rfl rfl hv ?_
  refine zv_p (k := 3) (f' := (300, [(7, .ref q22), (6, .ref q5), (5, .int ((1000001 : Int32) + (v1 * v3))), (4, .int p4), (0, .ref p0), (1, .ref p1), (2, .int p2), (3, .int p3)], [.int (1 : Int32), .int (0 : Int32), .ref q61, .ref q61])) zq_283 zo_283 (by with_unfolding_all rfl) ?_
  replace hf := zf_be hf
  obtain ⟨h63, hv, hf⟩ := hf
  refine zv_stI zq_283 zo_283 rfl hv ?_
  refine zv_p (k := 3) (f' := (304, [(7, .ref q22), (6, .ref q5), (5, .int ((1000001 : Int32) + (v1 * v3))), (4, .int p4), (0, .ref p0), (1, .ref p1), (2, .int p2), (3, .int p3)], [.int (2 : Int32), .int (1 : Int32), .ref q61, .ref q61])) zq_283 zo_283 (by with_unfolding_all rfl) ?_
  replace hf := zf_be hf
  obtain ⟨h64, hv, hf⟩ := hf
  refine zv_stI zq_283 zo_283 rfl hv ?_
  refine zv_p (k := 3) (f' := (308, [(7, .ref q22), (6, .ref q5), (5, .int ((1000001 : Int32) + (v1 * v3))), (4, .int p4), (0, .ref p0), (1, .ref p1), (2, .int p2), (3, .int p3)], [.int (1 : Int32), .int (2 : Int32), .ref q61, .ref q61])) zq_283 zo_283 (by with_unfolding_all rfl) ?_
  replace hf := zf_be hf
  obtain ⟨h65, hv, hf⟩ := hf
  refine zv_stI zq_283 zo_283 rfl hv ?_
  refine zv_p (k := 3) (f' := (312, [(7, .ref q22), (6, .ref q5), (5, .int ((1000001 : Int32) + (v1 * v3))), (4, .int p4), (0, .ref p0), (1, .ref p1), (2, .int p2), (3, .int p3)], [.int (1 : Int32), .int (3 : Int32), .ref q61, .ref q61])) zq_283 zo_283 (by with_unfolding_all rfl) ?_
  replace hf := zf_be hf
  obtain ⟨h66, hv, hf⟩ := hf
  refine zv_stI zq_283 zo_283 rfl hv ?_
  refine zv_p (k := 3) (f' := (316, [(7, .ref q22), (6, .ref q5), (5, .int ((1000001 : Int32) + (v1 * v3))), (4, .int p4), (0, .ref p0), (1, .ref p1), (2, .int p2), (3, .int p3)], [.int (1 : Int32), .int (4 : Int32), .ref q61, .ref q61])) zq_283 zo_283 (by with_unfolding_all rfl) ?_
  replace hf := zf_be hf
  obtain ⟨h67, hv, hf⟩ := hf
  refine zv_stI zq_283 zo_283 rfl hv ?_
  refine zv_p (k := 3) (f' := (320, [(7, .ref q22), (6, .ref q5), (5, .int ((1000001 : Int32) + (v1 * v3))), (4, .int p4), (0, .ref p0), (1, .ref p1), (2, .int p2), (3, .int p3)], [.int (1 : Int32), .int (5 : Int32), .ref q61, .ref q61])) zq_283 zo_283 (by with_unfolding_all rfl) ?_
  replace hf := zf_be hf
  obtain ⟨h68, hv, hf⟩ := hf
  refine zv_stI zq_283 zo_283 rfl hv ?_
  refine zv_p (k := 3) (f' := (325, [(7, .ref q22), (6, .ref q5), (5, .int ((1000001 : Int32) + (v1 * v3))), (4, .int p4), (0, .ref p0), (1, .ref p1), (2, .int p2), (3, .int p3)], [.int (2 : Int32), .int (6 : Int32), .ref q61, .ref q61])) zq_283 zo_283 (by with_unfolding_all rfl) ?_
  replace hf := zf_be hf
  obtain ⟨h69, hv, hf⟩ := hf
  refine zv_stI zq_283 zo_283 rfl hv ?_
  refine zv_p (k := 3) (f' := (330, [(7, .ref q22), (6, .ref q5), (5, .int ((1000001 : Int32) + (v1 * v3))), (4, .int p4), (0, .ref p0), (1, .ref p1), (2, .int p2), (3, .int p3)], [.int (2 : Int32), .int (7 : Int32), .ref q61, .ref q61])) zq_283 zo_283 (by with_unfolding_all rfl) ?_
  replace hf := zf_be hf
  obtain ⟨h70, hv, hf⟩ := hf
  refine zv_stI zq_283 zo_283 rfl hv ?_
  refine zv_p (k := 3) (f' := (335, [(7, .ref q22), (6, .ref q5), (5, .int ((1000001 : Int32) + (v1 * v3))), (4, .int p4), (0, .ref p0), (1, .ref p1), (2, .int p2), (3, .int p3)], [.int (2 : Int32), .int (8 : Int32), .ref q61, .ref q61])) zq_283 zo_283 (by with_unfolding_all rfl) ?_
  replace hf := zf_be hf
  obtain ⟨h71, hv, hf⟩ := hf
  refine zv_stI zq_283 zo_283 rfl hv ?_
  refine zv_p (k := 3) (f' := (340, [(7, .ref q22), (6, .ref q5), (5, .int ((1000001 : Int32) + (v1 * v3))), (4, .int p4), (0, .ref p0), (1, .ref p1), (2, .int p2), (3, .int p3)], [.int (2 : Int32), .int (9 : Int32), .ref q61, .ref q61])) zq_283 zo_283 (by with_unfolding_all rfl) ?_
  replace hf := zf_be hf
  obtain ⟨h72, hv, hf⟩ := hf
  refine zv_stI zq_283 zo_283 rfl hv ?_
  refine zv_p (k := 3) (f' := (345, [(7, .ref q22), (6, .ref q5), (5, .int ((1000001 : Int32) + (v1 * v3))), (4, .int p4), (0, .ref p0), (1, .ref p1), (2, .int p2), (3, .int p3)], [.int (1 : Int32), .int (10 : Int32), .ref q61, .ref q61])) zq_283 zo_283 (by with_unfolding_all rfl) ?_
  replace hf := zf_be hf
  obtain ⟨h73, hv, hf⟩ := hf
  refine zv_stI zq_283 zo_283 rfl hv ?_
  refine zv_p (k := 3) (f' := (350, [(7, .ref q22), (6, .ref q5), (5, .int ((1000001 : Int32) + (v1 * v3))), (4, .int p4), (0, .ref p0), (1, .ref p1), (2, .int p2), (3, .int p3)], [.int (1 : Int32), .int (11 : Int32), .ref q61, .ref q61])) zq_283 zo_283 (by with_unfolding_all rfl) ?_
  replace hf := zf_be hf
  obtain ⟨h74, hv, hf⟩ := hf
  refine zv_stI zq_283 zo_283 rfl hv ?_
  refine zv_p (k := 3) (f' := (355, [(7, .ref q22), (6, .ref q5), (5, .int ((1000001 : Int32) + (v1 * v3))), (4, .int p4), (0, .ref p0), (1, .ref p1), (2, .int p2), (3, .int p3)], [.int (1 : Int32), .int (12 : Int32), .ref q61, .ref q61])) zq_283 zo_283 (by with_unfolding_all rfl) ?_
  replace hf := zf_be hf
  obtain ⟨h75, hv, hf⟩ := hf
  refine zv_stI zq_283 zo_283 rfl hv ?_
  refine zv_p (k := 3) (f' := (360, [(7, .ref q22), (6, .ref q5), (5, .int ((1000001 : Int32) + (v1 * v3))), (4, .int p4), (0, .ref p0), (1, .ref p1), (2, .int p2), (3, .int p3)], [.int (1 : Int32), .int (13 : Int32), .ref q61, .ref q61])) zq_283 zo_283 (by with_unfolding_all rfl) ?_
  replace hf := zf_be hf
  obtain ⟨h76, hv, hf⟩ := hf
  refine zv_stI zq_283 zo_283 rfl hv ?_
  refine zv_p (k := 3) (f' := (365, [(7, .ref q22), (6, .ref q5), (5, .int ((1000001 : Int32) + (v1 * v3))), (4, .int p4), (0, .ref p0), (1, .ref p1), (2, .int p2), (3, .int p3)], [.int (2 : Int32), .int (14 : Int32), .ref q61, .ref q61])) zq_283 zo_283 (by with_unfolding_all rfl) ?_
  replace hf := zf_be hf
  obtain ⟨h77, hv, hf⟩ := hf
  refine zv_stI zq_283 zo_283 rfl hv ?_
  refine zv_p (k := 2) (f' := (370, [(8, .ref q61), (7, .ref q22), (6, .ref q5), (5, .int ((1000001 : Int32) + (v1 * v3))), (4, .int p4), (0, .ref p0), (1, .ref p1), (2, .int p2), (3, .int p3)], [.int (15 : Int32)])) zq_283 zo_283 (by with_unfolding_all rfl) ?_
  replace hf := zf_b2e hf
  obtain ⟨q78, h79, hv, hf⟩ := hf
  refine zv_newa zq_283 zo_283 rfl rfl hv ?_
  refine zv_p (k := 3) (f' := (375, [(8, .ref q61), (7, .ref q22), (6, .ref q5), (5, .int ((1000001 : Int32) + (v1 * v3))), (4, .int p4), (0, .ref p0), (1, .ref p1), (2, .int p2), (3, .int p3)], [.int (0 : Int32), .int (0 : Int32), .ref q78, .ref q78])) zq_283 zo_283 (by with_unfolding_all rfl) ?_
  replace hf := zf_be hf
  obtain ⟨h80, hv, hf⟩ := hf
  refine zv_stI zq_283 zo_283 rfl hv ?_
  refine zv_p (k := 3) (f' := (379, [(8, .ref q61), (7, .ref q22), (6, .ref q5), (5, .int ((1000001 : Int32) + (v1 * v3))), (4, .int p4), (0, .ref p0), (1, .ref p1), (2, .int p2), (3, .int p3)], [.int (5 : Int32), .int (1 : Int32), .ref q78, .ref q78])) zq_283 zo_283 (by with_unfolding_all rfl) ?_
  replace hf := zf_be hf
  obtain ⟨h81, hv, hf⟩ := hf
  refine zv_stI zq_283 zo_283 rfl hv ?_
  refine zv_p (k := 3) (f' := (384, [(8, .ref q61), (7, .ref q22), (6, .ref q5), (5, .int ((1000001 : Int32) + (v1 * v3))), (4, .int p4), (0, .ref p0), (1, .ref p1), (2, .int p2), (3, .int p3)], [.int (7 : Int32), .int (2 : Int32), .ref q78, .ref q78])) zq_283 zo_283 (by with_unfolding_all rfl) ?_
  replace hf := zf_be hf
  obtain ⟨h82, hv, hf⟩ := hf
  refine zv_stI zq_283 zo_283 rfl hv ?_
  refine zv_p (k := 3) (f' := (388, [(8, .ref q61), (7, .ref q22), (6, .ref q5), (5, .int ((1000001 : Int32) + (v1 * v3))), (4, .int p4), (0, .ref p0), (1, .ref p1), (2, .int p2), (3, .int p3)], [.int (3 : Int32), .int (3 : Int32), .ref q78, .ref q78])) zq_283 zo_283 (by with_unfolding_all rfl) ?_
  replace hf := zf_be hf
  obtain ⟨h83, hv, hf⟩ := hf
  refine zv_stI zq_283 zo_283 rfl hv ?_
  refine zv_p (k := 3) (f' := (392, [(8, .ref q61), (7, .ref q22), (6, .ref q5), (5, .int ((1000001 : Int32) + (v1 * v3))), (4, .int p4), (0, .ref p0), (1, .ref p1), (2, .int p2), (3, .int p3)], [.int (1 : Int32), .int (4 : Int32), .ref q78, .ref q78])) zq_283 zo_283 (by with_unfolding_all rfl) ?_
  replace hf := zf_be hf
  obtain ⟨h84, hv, hf⟩ := hf
  refine zv_stI zq_283 zo_283 rfl hv ?_
  refine zv_p (k := 3) (f' := (397, [(8, .ref q61), (7, .ref q22), (6, .ref q5), (5, .int ((1000001 : Int32) + (v1 * v3))), (4, .int p4), (0, .ref p0), (1, .ref p1), (2, .int p2), (3, .int p3)], [.int (8 : Int32), .int (5 : Int32), .ref q78, .ref q78])) zq_283 zo_283 (by with_unfolding_all rfl) ?_
  replace hf := zf_be hf
  obtain ⟨h85, hv, hf⟩ := hf
  refine zv_stI zq_283 zo_283 rfl hv ?_
  refine zv_p (k := 3) (f' := (403, [(8, .ref q61), (7, .ref q22), (6, .ref q5), (5, .int ((1000001 : Int32) + (v1 * v3))), (4, .int p4), (0, .ref p0), (1, .ref p1), (2, .int p2), (3, .int p3)], [.int (18 : Int32), .int (6 : Int32), .ref q78, .ref q78])) zq_283 zo_283 (by with_unfolding_all rfl) ?_
  replace hf := zf_be hf
  obtain ⟨h86, hv, hf⟩ := hf
  refine zv_stI zq_283 zo_283 rfl hv ?_
  refine zv_p (k := 3) (f' := (408, [(8, .ref q61), (7, .ref q22), (6, .ref q5), (5, .int ((1000001 : Int32) + (v1 * v3))), (4, .int p4), (0, .ref p0), (1, .ref p1), (2, .int p2), (3, .int p3)], [.int (3 : Int32), .int (7 : Int32), .ref q78, .ref q78])) zq_283 zo_283 (by with_unfolding_all rfl) ?_
  replace hf := zf_be hf
  obtain ⟨h87, hv, hf⟩ := hf
  refine zv_stI zq_283 zo_283 rfl hv ?_
  refine zv_p (k := 3) (f' := (414, [(8, .ref q61), (7, .ref q22), (6, .ref q5), (5, .int ((1000001 : Int32) + (v1 * v3))), (4, .int p4), (0, .ref p0), (1, .ref p1), (2, .int p2), (3, .int p3)], [.int (6 : Int32), .int (8 : Int32), .ref q78, .ref q78])) zq_283 zo_283 (by with_unfolding_all rfl) ?_
  replace hf := zf_be hf
  obtain ⟨h88, hv, hf⟩ := hf
  refine zv_stI zq_283 zo_283 rfl hv ?_
  refine zv_p (k := 3) (f' := (419, [(8, .ref q61), (7, .ref q22), (6, .ref q5), (5, .int ((1000001 : Int32) + (v1 * v3))), (4, .int p4), (0, .ref p0), (1, .ref p1), (2, .int p2), (3, .int p3)], [.int (5 : Int32), .int (9 : Int32), .ref q78, .ref q78])) zq_283 zo_283 (by with_unfolding_all rfl) ?_
  replace hf := zf_be hf
  obtain ⟨h89, hv, hf⟩ := hf
  refine zv_stI zq_283 zo_283 rfl hv ?_
  refine zv_p (k := 3) (f' := (425, [(8, .ref q61), (7, .ref q22), (6, .ref q5), (5, .int ((1000001 : Int32) + (v1 * v3))), (4, .int p4), (0, .ref p0), (1, .ref p1), (2, .int p2), (3, .int p3)], [.int (9 : Int32), .int (10 : Int32), .ref q78, .ref q78])) zq_283 zo_283 (by with_unfolding_all rfl) ?_
  replace hf := zf_be hf
  obtain ⟨h90, hv, hf⟩ := hf
  refine zv_stI zq_283 zo_283 rfl hv ?_
  refine zv_p (k := 3) (f' := (431, [(8, .ref q61), (7, .ref q22), (6, .ref q5), (5, .int ((1000001 : Int32) + (v1 * v3))), (4, .int p4), (0, .ref p0), (1, .ref p1), (2, .int p2), (3, .int p3)], [.int (11 : Int32), .int (11 : Int32), .ref q78, .ref q78])) zq_283 zo_283 (by with_unfolding_all rfl) ?_
  replace hf := zf_be hf
  obtain ⟨h91, hv, hf⟩ := hf
  refine zv_stI zq_283 zo_283 rfl hv ?_
  refine zv_p (k := 3) (f' := (437, [(8, .ref q61), (7, .ref q22), (6, .ref q5), (5, .int ((1000001 : Int32) + (v1 * v3))), (4, .int p4), (0, .ref p0), (1, .ref p1), (2, .int p2), (3, .int p3)], [.int (7 : Int32), .int (12 : Int32), .ref q78, .ref q78])) zq_283 zo_283 (by with_unfolding_all rfl) ?_
  replace hf := zf_be hf
  obtain ⟨h92, hv, hf⟩ := hf
  refine zv_stI zq_283 zo_283 rfl hv ?_
  refine zv_p (k := 3) (f' := (443, [(8, .ref q61), (7, .ref q22), (6, .ref q5), (5, .int ((1000001 : Int32) + (v1 * v3))), (4, .int p4), (0, .ref p0), (1, .ref p1), (2, .int p2), (3, .int p3)], [.int (11 : Int32), .int (13 : Int32), .ref q78, .ref q78])) zq_283 zo_283 (by with_unfolding_all rfl) ?_
  replace hf := zf_be hf
  obtain ⟨h93, hv, hf⟩ := hf
  refine zv_stI zq_283 zo_283 rfl hv ?_
  refine zv_p (k := 3) (f' := (449, [(8, .ref q61), (7, .ref q22), (6, .ref q5), (5, .int ((1000001 : Int32) + (v1 * v3))), (4, .int p4), (0, .ref p0), (1, .ref p1), (2, .int p2), (3, .int p3)], [.int (9 : Int32), .int (14 : Int32), .ref q78, .ref q78])) zq_283 zo_283 (by with_unfolding_all rfl) ?_
  replace hf := zf_be hf
  obtain ⟨h94, hv, hf⟩ := hf
  refine zv_stI zq_283 zo_283 rfl hv ?_
  refine zv_p (k := 3) (f' := (455, [(9, .ref q78), (8, .ref q61), (7, .ref q22), (6, .ref q5), (5, .int ((1000001 : Int32) + (v1 * v3))), (4, .int p4), (0, .ref p0), (1, .ref p1), (2, .int p2), (3, .int p3)], [.int (15 : Int32), .ref p1])) zq_283 zo_283 (by with_unfolding_all rfl) ?_
  replace hf := zf_b2e hf
  obtain ⟨v95, h96, hv, hf⟩ := hf
  refine zv_c zq_283 zo_283 rfl rfl rfl rfl rfl rfl (t_f_ColumnVaultLaw_draw _ _ _ _ _ hv) ?_
  refine zv_p (k := 3) (f' := (464, [(10, .int v95), (9, .ref q78), (8, .ref q61), (7, .ref q22), (6, .ref q5), (5, .int ((1000001 : Int32) + (v1 * v3))), (4, .int p4), (0, .ref p0), (1, .ref p1), (2, .int p2), (3, .int p3)], [.int (14 : Int32), .int v95])) zq_283 zo_283 (by with_unfolding_all rfl) ?_
  replace hf := zf_ite hf
  obtain ⟨hc, hf⟩ | ⟨hc, hf⟩ := hf
  · refine zv_brT (off := 11) (tt := 475) (r := []) zq_283 zo_283 hc rfl rfl rfl ?_
    refine zv_pick (lv' := [(0, .ref p0), (2, .int p2), (4, .int p4), (6, .ref q5), (7, .ref q22), (8, .ref q61), (9, .ref q78), (10, .int v95)]) [0, 2, 4, 6, 7, 8, 9, 10] rfl rfl ?_
    exact t_f_ColumnVaultLaw_isWrong_475 _ _ _ _ _ _ _ _ _ _ _ hf
  · refine zv_brF (off := 11) (tt := 475) (r := []) zq_283 zo_283 hc rfl rfl rfl ?_
    refine zv_p (k := 2) (f' := (470, [(10, .int v95), (9, .ref q78), (8, .ref q61), (7, .ref q22), (6, .ref q5), (5, .int ((1000001 : Int32) + (v1 * v3))), (4, .int p4), (0, .ref p0), (1, .ref p1), (2, .int p2), (3, .int p3)], [.int (9 : Int32), .int p3])) zq_283 zo_283 (by with_unfolding_all rfl) ?_
    replace hf := zf_ite hf
    obtain ⟨hc, hf⟩ | ⟨hc, hf⟩ := hf
    · refine zv_brT (off := 5) (tt := 475) (r := []) zq_283 zo_283 hc rfl rfl rfl ?_
      refine zv_pick (lv' := [(0, .ref p0), (2, .int p2), (4, .int p4), (6, .ref q5), (7, .ref q22), (8, .ref q61), (9, .ref q78), (10, .int v95)]) [0, 2, 4, 6, 7, 8, 9, 10] rfl rfl ?_
      exact t_f_ColumnVaultLaw_isWrong_475 _ _ _ _ _ _ _ _ _ _ _ hf
    · refine zv_brF (off := 5) (tt := 475) (r := []) zq_283 zo_283 hc rfl rfl rfl ?_
      refine zv_p (k := 1) (f' := (474, [(10, .int v95), (9, .ref q78), (8, .ref q61), (7, .ref q22), (6, .ref q5), (5, .int ((1000001 : Int32) + (v1 * v3))), (4, .int p4), (0, .ref p0), (1, .ref p1), (2, .int p2), (3, .int p3)], [.int (1 : Int32)])) zq_283 zo_283 (by with_unfolding_all rfl) ?_
      cases hf
      exact zv_rn zq_283 zo_283 rfl rfl
