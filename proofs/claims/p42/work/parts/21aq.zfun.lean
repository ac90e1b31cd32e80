set_option maxHeartbeats 1000000 in
def f_Sheet_risingRows_64 (k24 : Nat → Int32 → Int64 → Nat → Int32 → Int32 → zx_H → Option (Nat × zx_H)) : Nat → Nat → Int32 → Int64 → Nat → Int32 → Int32 → Int64 → Int32 → zx_H → Option (Nat × zx_H)
  | 0, _, _, _, _, _, _, _, _, _ => none
  | n + 1, p0, p1, p2, p3, p4, p5, p6, p7, h =>
    if p7 ≤ 0 then
      zf_b (zf_stI p3 p7 p5 h) fun h1 =>
      k24 p0 p1 p2 p3 (p4 + (1 : Int32)) (p5 + (1 : Int32)) h1
    else
      zf_b (zf_ldI p3 (p7 - (1 : Int32)) h) fun v2 =>
      zf_b (zf_is 10 p0 h) fun _ =>
      zf_b2 (f_Sheet_keyAt p0 p1 v2 h) fun v3 h4 =>
      if v3 ≤ p6 then
        zf_b (zf_stI p3 p7 p5 h4) fun h5 =>
        k24 p0 p1 p2 p3 (p4 + (1 : Int32)) (p5 + (1 : Int32)) h5
      else
        zf_b (zf_ldI p3 (p7 - (1 : Int32)) h4) fun v6 =>
        zf_b (zf_stI p3 p7 v6 h4) fun h7 =>
        (f_Sheet_risingRows_64 k24 n) p0 p1 p2 p3 p4 p5 p6 (p7 + (-1 : Int32)) h7
set_option maxHeartbeats 4000000 in
set_option maxRecDepth 400000 in
theorem t_f_Sheet_risingRows_64 {sc : (Nat × (Nat → Int32)) × Bool} {d : Nat} {k24 : Nat → Int32 → Int64 → Nat → Int32 → Int32 → zx_H → Option (Nat × zx_H)} (hk24 : ∀ (a0 : Nat) (a1 : Int32) (a2 : Int64) (a3 : Nat) (a4 : Int32) (a5 : Int32) (h : zx_H) (r : Nat) (h' : zx_H), k24 a0 a1 a2 a3 a4 a5 h = some (r, h') → zx_T sc (d + 3) 106 (24, [(0, .ref a0), (1, .int a1), (4, .long a2), (6, .ref a3), (7, .int a4), (8, .int a5)], []) h (zf_oA r) h') : ∀ (n : Nat) (p0 : Nat) (p1 : Int32) (p2 : Int64) (p3 : Nat) (p4 : Int32) (p5 : Int32) (p6 : Int64) (p7 : Int32) (h : zx_H) (r : Nat) (h' : zx_H), f_Sheet_risingRows_64 k24 n p0 p1 p2 p3 p4 p5 p6 p7 h = some (r, h') → zx_T sc (d + 3) 106 (64, [(0, .ref p0), (1, .int p1), (4, .long p2), (6, .ref p3), (7, .int p4), (8, .int p5), (9, .long p6), (11, .int p7)], []) h (zf_oA r) h' := by
  intro n
  induction n with
  | zero => intro p0 p1 p2 p3 p4 p5 p6 p7 h r h' hf; cases hf
  | succ n ih =>
    intro p0 p1 p2 p3 p4 p5 p6 p7 h r h' hf
    unfold f_Sheet_risingRows_64 at hf
    refine zv_p (k := 1) (f' := (66, [(0, .ref p0), (1, .int p1), (4, .long p2), (6, .ref p3), (7, .int p4), (8, .int p5), (9, .long p6), (11, .int p7)], [.int p7])) zq_106 zo_106 (by with_unfolding_all rfl) ?_
    replace hf := zf_ite hf
    obtain ⟨hc, hf⟩ | ⟨hc, hf⟩ := hf
    · refine zv_brT (off := 39) (tt := 105) (r := []) zq_106 zo_106 hc rfl rfl rfl ?_
      refine zv_p (k := 3) (f' := (111, [(0, .ref p0), (1, .int p1), (4, .long p2), (6, .ref p3), (7, .int p4), (8, .int p5), (9, .long p6), (11, .int p7)], [.int p5, .int p7, .ref p3])) zq_106 zo_106 (by with_unfolding_all rfl) ?_
      replace hf := zf_be hf
      obtain ⟨h1, hv, hf⟩ := hf
      refine zv_stI zq_106 zo_106 rfl hv ?_
      refine zv_p (k := 3) (f' := (24, [(8, .int (p5 + (1 : Int32))), (7, .int (p4 + (1 : Int32))), (0, .ref p0), (1, .int p1), (4, .long p2), (6, .ref p3), (9, .long p6), (11, .int p7)], [])) zq_106 zo_106 (by with_unfolding_all rfl) ?_
      refine zv_pick (lv' := [(0, .ref p0), (1, .int p1), (4, .long p2), (6, .ref p3), (7, .int (p4 + (1 : Int32))), (8, .int (p5 + (1 : Int32)))]) [0, 1, 4, 6, 7, 8] rfl rfl ?_
      exact hk24 _ _ _ _ _ _ _ _ _ hf
    · refine zv_brF (off := 39) (tt := 105) (r := []) zq_106 zo_106 hc rfl rfl rfl ?_
      refine zv_p (k := 6) (f' := (77, [(0, .ref p0), (1, .int p1), (4, .long p2), (6, .ref p3), (7, .int p4), (8, .int p5), (9, .long p6), (11, .int p7)], [.int (p7 - (1 : Int32)), .ref p3, .int p1, .ref p0])) zq_106 zo_106 (by with_unfolding_all rfl) ?_
      replace hf := zf_be hf
      obtain ⟨v2, hv, hf⟩ := hf
      refine zv_ldI zq_106 zo_106 rfl hv ?_
      replace hf := zf_be hf
      obtain ⟨_, ho, hf⟩ := hf
      replace hf := zf_b2e hf
      obtain ⟨v3, h4, hv, hf⟩ := hf
      refine zv_c zq_106 zo_106 rfl rfl rfl rfl rfl (zv_cv rfl rfl rfl (zf_ise ho) rfl) (t_f_Sheet_keyAt _ _ _ _ _ _ hv) ?_
      refine zv_p (k := 2) (f' := (84, [(0, .ref p0), (1, .int p1), (4, .long p2), (6, .ref p3), (7, .int p4), (8, .int p5), (9, .long p6), (11, .int p7)], [.int (lg_cmp v3 p6)])) zq_106 zo_106 (by with_unfolding_all rfl) ?_
      replace hf := zf_ite hf
      obtain ⟨hc, hf⟩ | ⟨hc, hf⟩ := hf
      · refine zv_brT (off := 21) (tt := 105) (r := []) zq_106 zo_106 (zl_le.mpr hc) rfl rfl rfl ?_
        refine zv_p (k := 3) (f' := (111, [(0, .ref p0), (1, .int p1), (4, .long p2), (6, .ref p3), (7, .int p4), (8, .int p5), (9, .long p6), (11, .int p7)], [.int p5, .int p7, .ref p3])) zq_106 zo_106 (by with_unfolding_all rfl) ?_
        replace hf := zf_be hf
        obtain ⟨h5, hv, hf⟩ := hf
        refine zv_stI zq_106 zo_106 rfl hv ?_
        refine zv_p (k := 3) (f' := (24, [(8, .int (p5 + (1 : Int32))), (7, .int (p4 + (1 : Int32))), (0, .ref p0), (1, .int p1), (4, .long p2), (6, .ref p3), (9, .long p6), (11, .int p7)], [])) zq_106 zo_106 (by with_unfolding_all rfl) ?_
        refine zv_pick (lv' := [(0, .ref p0), (1, .int p1), (4, .long p2), (6, .ref p3), (7, .int (p4 + (1 : Int32))), (8, .int (p5 + (1 : Int32)))]) [0, 1, 4, 6, 7, 8] rfl rfl ?_
        exact hk24 _ _ _ _ _ _ _ _ _ hf
      · refine zv_brF (off := 21) (tt := 105) (r := []) zq_106 zo_106 (mt zl_le.mp hc) rfl rfl rfl ?_
        refine zv_p (k := 6) (f' := (97, [(0, .ref p0), (1, .int p1), (4, .long p2), (6, .ref p3), (7, .int p4), (8, .int p5), (9, .long p6), (11, .int p7)], [.int (p7 - (1 : Int32)), .ref p3, .int p7, .ref p3])) zq_106 zo_106 (by with_unfolding_all rfl) ?_
        replace hf := zf_be hf
        obtain ⟨v6, hv, hf⟩ := hf
        refine zv_ldI zq_106 zo_106 rfl hv ?_
        replace hf := zf_be hf
        obtain ⟨h7, hv, hf⟩ := hf
        refine zv_stI zq_106 zo_106 rfl hv ?_
        refine zv_p (k := 2) (f' := (64, [(11, .int (p7 + (-1 : Int32))), (0, .ref p0), (1, .int p1), (4, .long p2), (6, .ref p3), (7, .int p4), (8, .int p5), (9, .long p6)], [])) zq_106 zo_106 (by with_unfolding_all rfl) ?_
        refine zv_pick (lv' := [(0, .ref p0), (1, .int p1), (4, .long p2), (6, .ref p3), (7, .int p4), (8, .int p5), (9, .long p6), (11, .int (p7 + (-1 : Int32)))]) [0, 1, 4, 6, 7, 8, 9, 11] rfl rfl ?_
        exact ih _ _ _ _ _ _ _ _ _ _ _ hf
set_option maxHeartbeats 1000000 in
def f_Sheet_risingRows_24 : Nat → Nat → Int32 → Int64 → Nat → Int32 → Int32 → zx_H → Option (Nat × zx_H)
  | 0, _, _, _, _, _, _, _ => none
  | n + 1, p0, p1, p2, p3, p4, p5, h =>
    zf_b (zf_I 10 4 p0 h) fun v1 =>
    if v1 ≤ p5 then
      some (p3, h)
    else
      zf_b (zf_len p3 h) fun v2 =>
      if v2 ≤ p4 then
        some (p3, h)
      else
        zf_b2 (f_ColumnVault_holdsRow p2 p5 h) fun v3 h4 =>
        if v3 = 0 then
          (f_Sheet_risingRows_24 n) p0 p1 p2 p3 p4 (p5 + (1 : Int32)) h4
        else
          zf_b (zf_is 10 p0 h4) fun _ =>
          zf_b2 (f_Sheet_keyAt p0 p1 p5 h4) fun v5 h6 =>
          f_Sheet_risingRows_64 (f_Sheet_risingRows_24 n) zF p0 p1 p2 p3 p4 p5 v5 p4 h6
set_option maxHeartbeats 4000000 in
set_option maxRecDepth 400000 in
theorem t_f_Sheet_risingRows_24 {sc : (Nat × (Nat → Int32)) × Bool} {d : Nat} : ∀ (n : Nat) (p0 : Nat) (p1 : Int32) (p2 : Int64) (p3 : Nat) (p4 : Int32) (p5 : Int32) (h : zx_H) (r : Nat) (h' : zx_H), f_Sheet_risingRows_24 n p0 p1 p2 p3 p4 p5 h = some (r, h') → zx_T sc (d + 3) 106 (24, [(0, .ref p0), (1, .int p1), (4, .long p2), (6, .ref p3), (7, .int p4), (8, .int p5)], []) h (zf_oA r) h' := by
  intro n
  induction n with
  | zero => intro p0 p1 p2 p3 p4 p5 h r h' hf; cases hf
  | succ n ih =>
    intro p0 p1 p2 p3 p4 p5 h r h' hf
    unfold f_Sheet_risingRows_24 at hf
    refine zv_p (k := 2) (f' := (27, [(0, .ref p0), (1, .int p1), (4, .long p2), (6, .ref p3), (7, .int p4), (8, .int p5)], [.ref p0, .int p5])) zq_106 zo_106 (by with_unfolding_all rfl) ?_
    replace hf := zf_be hf
    obtain ⟨v1, hv, hf⟩ := hf
    refine zv_gf zq_106 zo_106 rfl rfl rfl (zf_Ie hv) ?_
    replace hf := zf_ite hf
    obtain ⟨hc, hf⟩ | ⟨hc, hf⟩ := hf
    · refine zv_brT (off := 91) (tt := 121) (r := []) zq_106 zo_106 hc rfl rfl rfl ?_
      refine zv_p (k := 1) (f' := (123, [(0, .ref p0), (1, .int p1), (4, .long p2), (6, .ref p3), (7, .int p4), (8, .int p5)], [.ref p3])) zq_106 zo_106 (by with_unfolding_all rfl) ?_
      cases hf
      exact zv_r zq_106 zo_106 rfl rfl rfl rfl rfl
    · refine zv_brF (off := 91) (tt := 121) (r := []) zq_106 zo_106 hc rfl rfl rfl ?_
      refine zv_p (k := 2) (f' := (37, [(0, .ref p0), (1, .int p1), (4, .long p2), (6, .ref p3), (7, .int p4), (8, .int p5)], [.ref p3, .int p4])) zq_106 zo_106 (by with_unfolding_all rfl) ?_
      replace hf := zf_be hf
      obtain ⟨v2, hv, hf⟩ := hf
      refine zv_len zq_106 zo_106 rfl hv ?_
      replace hf := zf_ite hf
      obtain ⟨hc, hf⟩ | ⟨hc, hf⟩ := hf
      · refine zv_brT (off := 83) (tt := 121) (r := []) zq_106 zo_106 hc rfl rfl rfl ?_
        refine zv_p (k := 1) (f' := (123, [(0, .ref p0), (1, .int p1), (4, .long p2), (6, .ref p3), (7, .int p4), (8, .int p5)], [.ref p3])) zq_106 zo_106 (by with_unfolding_all rfl) ?_
        cases hf
        exact zv_r zq_106 zo_106 rfl rfl rfl rfl rfl
      · refine zv_brF (off := 83) (tt := 121) (r := []) zq_106 zo_106 hc rfl rfl rfl ?_
        refine zv_p (k := 2) (f' := (45, [(0, .ref p0), (1, .int p1), (4, .long p2), (6, .ref p3), (7, .int p4), (8, .int p5)], [.int p5, .long p2])) zq_106 zo_106 (by with_unfolding_all rfl) ?_
        replace hf := zf_b2e hf
        obtain ⟨v3, h4, hv, hf⟩ := hf
        refine zv_c zq_106 zo_106 rfl rfl rfl rfl rfl rfl (t_f_ColumnVault_holdsRow _ _ _ _ _ hv) ?_
        replace hf := zf_ite hf
        obtain ⟨hc, hf⟩ | ⟨hc, hf⟩ := hf
        · refine zv_brT (off := 67) (tt := 115) (r := []) zq_106 zo_106 hc rfl rfl rfl ?_
          refine zv_p (k := 2) (f' := (24, [(8, .int (p5 + (1 : Int32))), (0, .ref p0), (1, .int p1), (4, .long p2), (6, .ref p3), (7, .int p4)], [])) zq_106 zo_106 (by with_unfolding_all rfl) ?_
          refine zv_pick (lv' := [(0, .ref p0), (1, .int p1), (4, .long p2), (6, .ref p3), (7, .int p4), (8, .int (p5 + (1 : Int32)))]) [0, 1, 4, 6, 7, 8] rfl rfl ?_
          exact ih _ _ _ _ _ _ _ _ _ hf
        · refine zv_brF (off := 67) (tt := 115) (r := []) zq_106 zo_106 hc rfl rfl rfl ?_
          refine zv_p (k := 3) (f' := (55, [(0, .ref p0), (1, .int p1), (4, .long p2), (6, .ref p3), (7, .int p4), (8, .int p5)], [.int p5, .int p1, .ref p0])) zq_106 zo_106 (by with_unfolding_all rfl) ?_
          replace hf := zf_be hf
          obtain ⟨_, ho, hf⟩ := hf
          replace hf := zf_b2e hf
          obtain ⟨v5, h6, hv, hf⟩ := hf
          refine zv_c zq_106 zo_106 rfl rfl rfl rfl rfl (zv_cv rfl rfl rfl (zf_ise ho) rfl) (t_f_Sheet_keyAt _ _ _ _ _ _ hv) ?_
          refine zv_p (k := 3) (f' := (64, [(11, .int p4), (9, .long v5), (0, .ref p0), (1, .int p1), (4, .long p2), (6, .ref p3), (7, .int p4), (8, .int p5)], [])) zq_106 zo_106 (by with_unfolding_all rfl) ?_
          refine zv_pick (lv' := [(0, .ref p0), (1, .int p1), (4, .long p2), (6, .ref p3), (7, .int p4), (8, .int p5), (9, .long v5), (11, .int p4)]) [0, 1, 4, 6, 7, 8, 9, 11] rfl rfl ?_
          exact t_f_Sheet_risingRows_64 ih zF _ _ _ _ _ _ _ _ _ _ _ hf
set_option maxHeartbeats 1000000 in
def f_Sheet_risingRows (p0 : Nat) (p1 : Int32) (p2 : Int64) (h : zx_H) : Option (Nat × zx_H) :=
  zf_b (zf_is 10 p0 h) fun _ =>
  zf_b2 (f_Sheet_knownRows p0 p1 h) fun v1 h2 =>
  zf_b2 (f_Long_bitCount (p2 &&& v1) h2) fun v3 h4 =>
  zf_b2 (zf_newa .int 1 v3 h4) fun q5 h6 =>
  f_Sheet_risingRows_24 zF p0 p1 (p2 &&& v1) q5 (0 : Int32) (0 : Int32) h6
set_option maxHeartbeats 4000000 in
set_option maxRecDepth 400000 in
theorem t_f_Sheet_risingRows {sc : (Nat × (Nat → Int32)) × Bool} {d : Nat} (p0 : Nat) (p1 : Int32) (p2 : Int64) (h : zx_H) (r : Nat) (h' : zx_H) (hf : f_Sheet_risingRows p0 p1 p2 h = some (r, h')) : zx_T sc (d + 3) 106 (0, [(0, .ref p0), (1, .int p1), (2, .long p2)], []) h (zf_oA r) h' := by
  unfold f_Sheet_risingRows at hf
  refine zv_p (k := 3) (f' := (3, [(0, .ref p0), (1, .int p1), (2, .long p2)], [.int p1, .ref p0, .long p2])) zq_106 zo_106 (by with_unfolding_all rfl) ?_
  replace hf := zf_be hf
  obtain ⟨_, ho, hf⟩ := hf
  replace hf := zf_b2e hf
  obtain ⟨v1, h2, hv, hf⟩ := hf
  refine zv_c zq_106 zo_106 rfl rfl rfl rfl rfl (zv_cv rfl rfl rfl (zf_ise ho) rfl) (t_f_Sheet_knownRows _ _ _ _ _ hv) ?_
  refine zv_p (k := 3) (f' := (11, [(4, .long (p2 &&& v1)), (0, .ref p0), (1, .int p1), (2, .long p2)], [.long (p2 &&& v1)])) zq_106 zo_106 (by with_unfolding_all rfl) ?_
  replace hf := zf_b2e hf
  obtain ⟨v3, h4, hv, hf⟩ := hf
  refine zv_c zq_106 zo_106 rfl rfl rfl rfl rfl rfl (t_f_Long_bitCount _ _ _ _ hv) ?_
  replace hf := zf_b2e hf
  obtain ⟨q5, h6, hv, hf⟩ := hf
  refine zv_newa zq_106 zo_106 rfl rfl hv ?_
  refine zv_p (k := 5) (f' := (24, [(8, .int (0 : Int32)), (7, .int (0 : Int32)), (6, .ref q5), (4, .long (p2 &&& v1)), (0, .ref p0), (1, .int p1), (2, .long p2)], [])) zq_106 zo_106 (by with_unfolding_all rfl) ?_
  refine zv_pick (lv' := [(0, .ref p0), (1, .int p1), (4, .long (p2 &&& v1)), (6, .ref q5), (7, .int (0 : Int32)), (8, .int (0 : Int32))]) [0, 1, 4, 6, 7, 8] rfl rfl ?_
  exact t_f_Sheet_risingRows_24 zF _ _ _ _ _ _ _ _ _ hf
/-! ColumnVault$Sheet.differentKeys (Iarr I)I -/
noncomputable def zI_107 : zd_T := [[(0, .iconst 0, 1), (1, .istore_n 3, 1), (2, .iconst 0, 1), (3, .istore 4, 2), (5, .iload 4, 2), (7, .aload_n 2, 1), (8, .arraylength, 1), (9, .if_icmp .ge 41, 3), (12, .iload 4, 2), (14, .ifCond .eq 27, 3), (17, .aload_n 0, 1), (18, .iload_n 1, 1), (19, .aload_n 2, 1), (20, .iload 4, 2), (22, .iaload, 1), (23, .invokevirtual 52, 3), (26, .aload_n 0, 1), (27, .iload_n 1, 1), (28, .aload_n 2, 1), (29, .iload 4, 2), (31, .iconst 1, 1)], [(32, .isub, 1), (33, .iaload, 1), (34, .invokevirtual 52, 3), (37, .lcmp, 1), (38, .ifCond .eq 6, 3), (41, .iinc 3 1, 3), (44, .iinc 4 1, 3), (47, .goto (-42), 3), (50, .iload_n 3, 1), (51, .ireturn, 1)]]
theorem zo_107 : zd_of 107 = some zI_107 := rfl
set_option maxRecDepth 100000 in
theorem zq_107 : zt_m[107]? = some (⟨"ColumnVault$Sheet", "differentKeys", "(I[I)I"⟩, prog_10_method_29_code, 5, some (.int), [], 10, 2, 0, 0, 0, 0) := rfl
set_option maxHeartbeats 1000000 in
def f_Sheet_differentKeys_5 : Nat → Nat → Int32 → Nat → Int32 → Int32 → zx_H → Option (Int32 × zx_H)
  | 0, _, _, _, _, _, _ => none
  | n + 1, p0, p1, p2, p3, p4, h =>
    zf_b (zf_len p2 h) fun v1 =>
    if v1 ≤ p4 then
      some (p3, h)
    else
      if p4 = 0 then
        (f_Sheet_differentKeys_5 n) p0 p1 p2 (p3 + (1 : Int32)) (p4 + (1 : Int32)) h
      else
        zf_b (zf_ldI p2 p4 h) fun v2 =>
        zf_b (zf_is 10 p0 h) fun _ =>
        zf_b2 (f_Sheet_keyAt p0 p1 v2 h) fun v3 h4 =>
        zf_b (zf_ldI p2 (p4 - (1 : Int32)) h4) fun v5 =>
        zf_b (zf_is 10 p0 h4) fun _ =>
        zf_b2 (f_Sheet_keyAt p0 p1 v5 h4) fun v6 h7 =>
        if v3 = v6 then
          (f_Sheet_differentKeys_5 n) p0 p1 p2 p3 (p4 + (1 : Int32)) h7
        else
          (f_Sheet_differentKeys_5 n) p0 p1 p2 (p3 + (1 : Int32)) (p4 + (1 : Int32)) h7
set_option maxHeartbeats 4000000 in
set_option maxRecDepth 400000 in
theorem t_f_Sheet_differentKeys_5 {sc : (Nat × (Nat → Int32)) × Bool} {d : Nat} : ∀ (n : Nat) (p0 : Nat) (p1 : Int32) (p2 : Nat) (p3 : Int32) (p4 : Int32) (h : zx_H) (r : Int32) (h' : zx_H), f_Sheet_differentKeys_5 n p0 p1 p2 p3 p4 h = some (r, h') → zx_T sc (d + 1) 107 (5, [(0, .ref p0), (1, .int p1), (2, .ref p2), (3, .int p3), (4, .int p4)], []) h (zf_oI r) h' := by
  intro n
  induction n with
  | zero => intro p0 p1 p2 p3 p4 h r h' hf; cases hf
  | succ n ih =>
    intro p0 p1 p2 p3 p4 h r h' hf
    unfold f_Sheet_differentKeys_5 at hf
    refine zv_p (k := 2) (f' := (8, [(0, .ref p0), (1, .int p1), (2, .ref p2), (3, .int p3), (4, .int p4)], [.ref p2, .int p4])) zq_107 zo_107 (by with_unfolding_all rfl) ?_
    replace hf := zf_be hf
    obtain ⟨v1, hv, hf⟩ := hf
    refine zv_len zq_107 zo_107 rfl hv ?_
    replace hf := zf_ite hf
    obtain ⟨hc, hf⟩ | ⟨hc, hf⟩ := hf
    · refine zv_brT (off := 41) (tt := 50) (r := []) zq_107 zo_107 hc rfl rfl rfl ?_
      refine zv_p (k := 1) (f' := (51, [(0, .ref p0), (1, .int p1), (2, .ref p2), (3, .int p3), (4, .int p4)], [.int p3])) zq_107 zo_107 (by with_unfolding_all rfl) ?_
      cases hf
      exact zv_rn zq_107 zo_107 rfl rfl
    · refine zv_brF (off := 41) (tt := 50) (r := []) zq_107 zo_107 hc rfl rfl rfl ?_
      refine zv_p (k := 1) (f' := (14, [(0, .ref p0), (1, .int p1), (2, .ref p2), (3, .int p3), (4, .int p4)], [.int p4])) zq_107 zo_107 (by with_unfolding_all rfl) ?_
      replace hf := zf_ite hf
      obtain ⟨hc, hf⟩ | ⟨hc, hf⟩ := hf
      · refine zv_brT (off := 27) (tt := 41) (r := []) zq_107 zo_107 hc rfl rfl rfl ?_
        refine zv_p (k := 3) (f' := (5, [(4, .int (p4 + (1 : Int32))), (3, .int (p3 + (1 : Int32))), (0, .ref p0), (1, .int p1), (2, .ref p2)], [])) zq_107 zo_107 (by with_unfolding_all rfl) ?_
        refine zv_pick (lv' := [(0, .ref p0), (1, .int p1), (2, .ref p2), (3, .int (p3 + (1 : Int32))), (4, .int (p4 + (1 : Int32)))]) [0, 1, 2, 3, 4] rfl rfl ?_
        exact ih _ _ _ _ _ _ _ _ hf
      · refine zv_brF (off := 27) (tt := 41) (r := []) zq_107 zo_107 hc rfl rfl rfl ?_
        refine zv_p (k := 4) (f' := (22, [(0, .ref p0), (1, .int p1), (2, .ref p2), (3, .int p3), (4, .int p4)], [.int p4, .ref p2, .int p1, .ref p0])) zq_107 zo_107 (by with_unfolding_all rfl) ?_
        replace hf := zf_be hf
        obtain ⟨v2, hv, hf⟩ := hf
        refine zv_ldI zq_107 zo_107 rfl hv ?_
        replace hf := zf_be hf
        obtain ⟨_, ho, hf⟩ := hf
        replace hf := zf_b2e hf
        obtain ⟨v3, h4, hv, hf⟩ := hf
        refine zv_c zq_107 zo_107 rfl rfl rfl rfl rfl (zv_cv rfl rfl rfl (zf_ise ho) rfl) (t_f_Sheet_keyAt _ _ _ _ _ _ hv) ?_
        refine zv_p (k := 6) (f' := (33, [(0, .ref p0), (1, .int p1), (2, .ref p2), (3, .int p3), (4, .int p4)], [.int (p4 - (1 : Int32)), .ref p2, .int p1, .ref p0, .long v3])) zq_107 zo_107 (by with_unfolding_all rfl) ?_
        replace hf := zf_be hf
        obtain ⟨v5, hv, hf⟩ := hf
        refine zv_ldI zq_107 zo_107 rfl hv ?_
        replace hf := zf_be hf
        obtain ⟨_, ho, hf⟩ := hf
        replace hf := zf_b2e hf
        obtain ⟨v6, h7, hv, hf⟩ := hf
        refine zv_c zq_107 zo_107 rfl rfl rfl rfl rfl (zv_cv rfl rfl rfl (zf_ise ho) rfl) (t_f_Sheet_keyAt _ _ _ _ _ _ hv) ?_
        refine zv_p (k := 1) (f' := (38, [(0, .ref p0), (1, .int p1), (2, .ref p2), (3, .int p3), (4, .int p4)], [.int (lg_cmp v3 v6)])) zq_107 zo_107 (by with_unfolding_all rfl) ?_
        replace hf := zf_ite hf
        obtain ⟨hc, hf⟩ | ⟨hc, hf⟩ := hf
        · refine zv_brT (off := 6) (tt := 44) (r := []) zq_107 zo_107 (zl_eq.mpr hc) rfl rfl rfl ?_
          refine zv_p (k := 2) (f' := (5, [(4, .int (p4 + (1 : Int32))), (0, .ref p0), (1, .int p1), (2, .ref p2), (3, .int p3)], [])) zq_107 zo_107 (by with_unfolding_all rfl) ?_
          refine zv_pick (lv' := [(0, .ref p0), (1, .int p1), (2, .ref p2), (3, .int p3), (4, .int (p4 + (1 : Int32)))]) [0, 1, 2, 3, 4] rfl rfl ?_
          exact ih _ _ _ _ _ _ _ _ hf
        · refine zv_brF (off := 6) (tt := 44) (r := []) zq_107 zo_107 (mt zl_eq.mp hc) rfl rfl rfl ?_
          refine zv_p (k := 3) (f' := (5, [(4, .int (p4 + (1 : Int32))), (3, .int (p3 + (1 : Int32))), (0, .ref p0), (1, .int p1), (2, .ref p2)], [])) zq_107 zo_107 (by with_unfolding_all rfl) ?_
          refine zv_pick (lv' := [(0, .ref p0), (1, .int p1), (2, .ref p2), (3, .int (p3 + (1 : Int32))), (4, .int (p4 + (1 : Int32)))]) [0, 1, 2, 3, 4] rfl rfl ?_
          exact ih _ _ _ _ _ _ _ _ hf
set_option maxHeartbeats 1000000 in
def f_Sheet_differentKeys (p0 : Nat) (p1 : Int32) (p2 : Nat) (h : zx_H) : Option (Int32 × zx_H) :=
  f_Sheet_differentKeys_5 zF p0 p1 p2 (0 : Int32) (0 : Int32) h
set_option maxHeartbeats 4000000 in
set_option maxRecDepth 400000 in
theorem t_f_Sheet_differentKeys {sc : (Nat × (Nat → Int32)) × Bool} {d : Nat} (p0 : Nat) (p1 : Int32) (p2 : Nat) (h : zx_H) (r : Int32) (h' : zx_H) (hf : f_Sheet_differentKeys p0 p1 p2 h = some (r, h')) : zx_T sc (d + 1) 107 (0, [(0, .ref p0), (1, .int p1), (2, .ref p2)], []) h (zf_oI r) h' := by
  unfold f_Sheet_differentKeys at hf
  refine zv_p (k := 4) (f' := (5, [(4, .int (0 : Int32)), (3, .int (0 : Int32)), (0, .ref p0), (1, .int p1), (2, .ref p2)], [])) zq_107 zo_107 (by with_unfolding_all rfl) ?_
  refine zv_pick (lv' := [(0, .ref p0), (1, .int p1), (2, .ref p2), (3, .int (0 : Int32)), (4, .int (0 : Int32))]) [0, 1, 2, 3, 4] rfl rfl ?_
  exact t_f_Sheet_differentKeys_5 zF _ _ _ _ _ _ _ _ hf
/-! ColumnVault.totalOf (LColumnVault$Sheet;IJI)J -/
noncomputable def zI_103 : zd_T := [[(0, .aload_n 0, 1), (1, .iload_n 1, 1), (2, .invokevirtual 95, 3), (5, .istore 5, 2), (7, .iload 4, 2), (9, .ifCond .lt 21, 3), (12, .iload 4, 2), (14, .iconst 5, 1), (15, .if_icmp .gt 15, 3), (18, .iload 4, 2), (20, .iconst 1, 1), (21, .if_icmp .ne 20, 3), (24, .iload 5, 2), (26, .iconst 1, 1), (27, .if_icmp .ne 14, 3), (30, .new 57, 3)], [(33, .dup, 1), (34, .ldc_w 398, 3), (37, .invokespecial 61, 3), (40, .athrow, 1), (41, .iload 4, 2), (43, .ifCond .ne 15, 3), (46, .lload_n 2, 1), (47, .aload_n 0, 1), (48, .iload_n 1, 1), (49, .invokevirtual 353, 3), (52, .land, 1), (53, .invokestatic 137, 3), (56, .i2l, 1), (57, .lreturn, 1), (58, .iload 4, 2), (60, .iconst 1, 1), (61, .if_icmp .ne 10, 3)], [(64, .aload_n 0, 1), (65, .iload_n 1, 1), (66, .lload_n 2, 1), (67, .invokevirtual 307, 3), (70, .lreturn, 1), (71, .aload_n 0, 1), (72, .iload_n 1, 1), (73, .lload_n 2, 1), (74, .invokevirtual 400, 3), (77, .astore 6, 2), (79, .iload 4, 2), (81, .iconst 5, 1), (82, .if_icmp .ne 12, 3), (85, .aload_n 0, 1), (86, .iload_n 1, 1), (87, .aload 6, 2), (89, .invokevirtual 404, 3), (92, .i2l, 1), (93, .lreturn, 1), (94, .aload 6, 2)], [(96, .arraylength, 1), (97, .ifCond .ne 14, 3), (100, .new 310, 3), (103, .dup, 1), (104, .ldc_w 408, 3), (107, .invokespecial 314, 3), (110, .athrow, 1), (111, .aload 6, 2), (113, .arraylength, 1), (114, .iconst 1, 1), (115, .isub, 1), (116, .istore 7, 2), (118, .aload_n 0, 1), (119, .iload_n 1, 1), (120, .aload 6, 2), (122, .iload 4, 2), (124, .iconst 2, 1), (125, .if_icmp .ne 7, 3)], [(128, .iconst 0, 1), (129, .goto 18, 3), (132, .iload 4, 2), (134, .iconst 3, 1), (135, .if_icmp .ne 8, 3), (138, .iload 7, 2), (140, .goto 7, 3), (143, .iload 7, 2), (145, .iconst 2, 1), (146, .idiv, 1), (147, .iaload, 1), (148, .invokevirtual 130, 3), (151, .lreturn, 1)]]
theorem zo_103 : zd_of 103 = some zI_103 := rfl
set_option maxRecDepth 100000 in
theorem zq_103 : zt_m[103]? = some (⟨"ColumnVault", "totalOf", "(LColumnVault$Sheet;IJI)J"⟩, prog_1_method_62_code, 8, some (.long), [], 12, 4, 0, 1, 99999, 0) := rfl
set_option maxHeartbeats 1000000 in
def f_ColumnVault_totalOf_41 (p0 : Nat) (p1 : Int32) (p2 : Int64) (p3 : Int32) (h : zx_H) : Option ((Int64 ⊕ Nat) × zx_H) :=
  if ¬ p3 = 0 then
    if ¬ p3 = (1 : Int32) then
      zf_b (zf_is 10 p0 h) fun _ =>
      zf_b2 (f_Sheet_risingRows p0 p1 p2 h) fun v1 h2 =>
      if ¬ p3 = (5 : Int32) then
        zf_b (zf_len v1 h2) fun v3 =>
        if ¬ v3 = 0 then
          zf_b (zf_len v1 h2) fun v4 =>
          if ¬ p3 = (2 : Int32) then
            if ¬ p3 = (3 : Int32) then
              zf_b (zf_ldI v1 ((v4 - (1 : Int32)) / (2 : Int32)) h2) fun v5 =>
              zf_b (zf_is 10 p0 h2) fun _ =>
              zf_b2 (f_Sheet_valueOf p0 p1 v5 h2) fun v6 h7 =>
              some (.inl v6, h7)
            else
              zf_b (zf_ldI v1 (v4 - (1 : Int32)) h2) fun v8 =>
              zf_b (zf_is 10 p0 h2) fun _ =>
              zf_b2 (f_Sheet_valueOf p0 p1 v8 h2) fun v9 h10 =>
              some (.inl v9, h10)
          else
            zf_b (zf_ldI v1 (0 : Int32) h2) fun v11 =>
            zf_b (zf_is 10 p0 h2) fun _ =>
            zf_b2 (f_Sheet_valueOf p0 p1 v11 h2) fun v12 h13 =>
            some (.inl v12, h13)
        else
          if h2.length < zx_lim then some (.inr 16, h2 ++ [.inr (16, [])]) else none
      else
        zf_b (zf_is 10 p0 h2) fun _ =>
        zf_b2 (f_Sheet_differentKeys p0 p1 v1 h2) fun v14 h15 =>
        some (.inl ((v14).toInt64), h15)
    else
      zf_b (zf_is 10 p0 h) fun _ =>
      zf_b2 (f_Sheet_sumOf p0 p1 p2 h) fun v16 h17 =>
      some (.inl v16, h17)
  else
    zf_b (zf_is 10 p0 h) fun _ =>
    zf_b2 (f_Sheet_knownRows p0 p1 h) fun v18 h19 =>
    zf_b2 (f_Long_bitCount (p2 &&& v18) h19) fun v20 h21 =>
    some (.inl ((v20).toInt64), h21)
set_option maxHeartbeats 4000000 in
set_option maxRecDepth 400000 in
theorem t_f_ColumnVault_totalOf_41 {sc : (Nat × (Nat → Int32)) × Bool} {d : Nat} (p0 : Nat) (p1 : Int32) (p2 : Int64) (p3 : Int32) (h : zx_H) (r : (Int64 ⊕ Nat)) (h' : zx_H) (hf : f_ColumnVault_totalOf_41 p0 p1 p2 p3 h = some (r, h')) : zx_T sc (d + 4) 103 (41, [(0, .ref p0), (1, .int p1), (2, .long p2), (4, .int p3)], []) h (zf_oJx r) h' := by
  unfold f_ColumnVault_totalOf_41 at hf
  refine zv_p (k := 1) (f' := (43, [(0, .ref p0), (1, .int p1), (2, .long p2), (4, .int p3)], [.int p3])) zq_103 zo_103 (by with_unfolding_all rfl) ?_
  replace hf := zf_ite hf
  obtain ⟨hc, hf⟩ | ⟨hc, hf⟩ := hf
  · refine zv_brT (off := 15) (tt := 58) (r := []) zq_103 zo_103 hc rfl rfl rfl ?_
    refine zv_p (k := 2) (f' := (61, [(0, .ref p0), (1, .int p1), (2, .long p2), (4, .int p3)], [.int (1 : Int32), .int p3])) zq_103 zo_103 (by with_unfolding_all rfl) ?_
    replace hf := zf_ite hf
    obtain ⟨hc, hf⟩ | ⟨hc, hf⟩ := hf
    · refine zv_brT (off := 10) (tt := 71) (r := []) zq_103 zo_103 hc rfl rfl rfl ?_
      refine zv_p (k := 3) (f' := (74, [(0, .ref p0), (1, .int p1), (2, .long p2), (4, .int p3)], [.long p2, .int p1, .ref p0])) zq_103 zo_103 (by with_unfolding_all rfl) ?_
      replace hf := zf_be hf
      obtain ⟨_, ho, hf⟩ := hf
      replace hf := zf_b2e hf
      obtain ⟨v1, h2, hv, hf⟩ := hf
      refine zv_c zq_103 zo_103 rfl rfl rfl rfl rfl (zv_cv rfl rfl rfl (zf_ise ho) rfl) (t_f_Sheet_risingRows _ _ _ _ _ _ hv) ?_
      refine zv_p (k := 3) (f' := (82, [(6, .ref v1), (0, .ref p0), (1, .int p1), (2, .long p2), (4, .int p3)], [.int (5 : Int32), .int p3])) zq_103 zo_103 (by with_unfolding_all rfl) ?_
      replace hf := zf_ite hf
      obtain ⟨hc, hf⟩ | ⟨hc, hf⟩ := hf
      · refine zv_brT (off := 12) (tt := 94) (r := []) zq_103 zo_103 hc rfl rfl rfl ?_
        refine zv_p (k := 1) (f' := (96, [(6, .ref v1), (0, .ref p0), (1, .int p1), (2, .long p2), (4, .int p3)], [.ref v1])) zq_103 zo_103 (by with_unfolding_all rfl) ?_
        replace hf := zf_be hf
        obtain ⟨v3, hv, hf⟩ := hf
        refine zv_len zq_103 zo_103 rfl hv ?_
        replace hf := zf_ite hf
        obtain ⟨hc, hf⟩ | ⟨hc, hf⟩ := hf
        · refine zv_brT (off := 14) (tt := 111) (r := []) zq_103 zo_103 hc rfl rfl rfl ?_
          refine zv_p (k := 1) (f' := (113, [(6, .ref v1), (0, .ref p0), (1, .int p1), (2, .long p2), (4, .int p3)], [.ref v1])) zq_103 zo_103 (by with_unfolding_all rfl) ?_
          replace hf := zf_be hf
          obtain ⟨v4, hv, hf⟩ := hf
          refine zv_len zq_103 zo_103 rfl hv ?_
          refine zv_p (k := 8) (f' := (125, [(7, .int (v4 - (1 : Int32))), (6, .ref v1), (0, .ref p0), (1, .int p1), (2, .long p2), (4, .int p3)], [.int (2 : Int32), .int p3, .ref v1, .int p1, .ref p0])) zq_103 zo_103 (by with_unfolding_all rfl) ?_
          replace hf := zf_ite hf
          obtain ⟨hc, hf⟩ | ⟨hc, hf⟩ := hf
          · refine zv_brT (off := 7) (tt := 132) (r := [.ref v1, .int p1, .ref p0]) zq_103 zo_103 hc rfl rfl rfl ?_
            refine zv_p (k := 2) (f' := (135, [(7, .int (v4 - (1 : Int32))), (6, .ref v1), (0, .ref p0), (1, .int p1), (2, .long p2), (4, .int p3)], [.int (3 : Int32), .int p3, .ref v1, .int p1, .ref p0])) zq_103 zo_103 (by with_unfolding_all rfl) ?_
            replace hf := zf_ite hf
            obtain ⟨hc, hf⟩ | ⟨hc, hf⟩ := hf
            · refine zv_brT (off := 8) (tt := 143) (r := [.ref v1, .int p1, .ref p0]) zq_103 zo_103 hc rfl rfl rfl ?_
              refine zv_p (k := 3) (f' := (147, [(7, .int (v4 - (1 : Int32))), (6, .ref v1), (0, .ref p0), (1, .int p1), (2, .long p2), (4, .int p3)], [.int ((v4 - (1 : Int32)) / (2 : Int32)), .ref v1, .int p1, .ref p0])) zq_103 zo_103 (by with_unfolding_all rfl) ?_
              replace hf := zf_be hf
              obtain ⟨v5, hv, hf⟩ := hf
              refine zv_ldI zq_103 zo_103 rfl hv ?_
              replace hf := zf_be hf
              obtain ⟨_, ho, hf⟩ := hf
              replace hf := zf_b2e hf
              obtain ⟨v6, h7, hv, hf⟩ := hf
              refine zv_c zq_103 zo_103 rfl rfl rfl rfl rfl (zv_cv rfl rfl rfl (zf_ise ho) rfl) (t_f_Sheet_valueOf _ _ _ _ _ _ hv) ?_
              cases hf
              exact zv_r zq_103 zo_103 rfl rfl rfl rfl rfl
            · refine zv_brF (off := 8) (tt := 143) (r := [.ref v1, .int p1, .ref p0]) zq_103 zo_103 hc rfl rfl rfl ?_
              refine zv_p (k := 2) (f' := (147, [(7, .int (v4 - (1 : Int32))), (6, .ref v1), (0, .ref p0), (1, .int p1), (2, .long p2), (4, .int p3)], [.int (v4 - (1 : Int32)), .ref v1, .int p1, .ref p0])) zq_103 zo_103 (by with_unfolding_all rfl) ?_
              replace hf := zf_be hf
              obtain ⟨v8, hv, hf⟩ := hf
              refine zv_ldI zq_103 zo_103 rfl hv ?_
              replace hf := zf_be hf
              obtain ⟨_, ho, hf⟩ := hf
              replace hf := zf_b2e hf
              obtain ⟨v9, h10, hv, hf⟩ := hf
              refine zv_c zq_103 zo_103 rfl rfl rfl rfl rfl (zv_cv rfl rfl rfl (zf_ise ho) rfl) (t_f_Sheet_valueOf _ _ _ _ _ _ hv) ?_
              cases hf
              exact zv_r zq_103 zo_103 rfl rfl rfl rfl rfl
          · refine zv_brF (off := 7) (tt := 132) (r := [.ref v1, .int p1, .ref p0]) zq_103 zo_103 hc rfl rfl rfl ?_
            refine zv_p (k := 2) (f' := (147, [(7, .int (v4 - (1 : Int32))), (6, .ref v1), (0, .ref p0), (1, .int p1), (2, .long p2), (4, .int p3)], [.int (0 : Int32), .ref v1, .int p1, .ref p0])) zq_103 zo_103 (by with_unfolding_all rfl) ?_
            replace hf := zf_be hf
            obtain ⟨v11, hv, hf⟩ := hf
            refine zv_ldI zq_103 zo_103 rfl hv ?_
            replace hf := zf_be hf
            obtain ⟨_, ho, hf⟩ := hf
            replace hf := zf_b2e hf
            obtain ⟨v12, h13, hv, hf⟩ := hf
            refine zv_c zq_103 zo_103 rfl rfl rfl rfl rfl (zv_cv rfl rfl rfl (zf_ise ho) rfl) (t_f_Sheet_valueOf _ _ _ _ _ _ hv) ?_
            cases hf
            exact zv_r zq_103 zo_103 rfl rfl rfl rfl rfl
        · refine zv_brF (off := 14) (tt := 111) (r := []) zq_103 zo_103 hc rfl rfl rfl ?_
          replace hf := zf_ite hf
          obtain ⟨hc, hf⟩ | ⟨hc, hf⟩ := hf
          · cases hf; exact zv_tw zq_103 zo_103 rfl rfl rfl rfl rfl rfl rfl rfl rfl hc
          · cases hf
      · refine zv_brF (off := 12) (tt := 94) (r := []) zq_103 zo_103 hc rfl rfl rfl ?_
        refine zv_p (k := 3) (f' := (89, [(6, .ref v1), (0, .ref p0), (1, .int p1), (2, .long p2), (4, .int p3)], [.ref v1, .int p1, .ref p0])) zq_103 zo_103 (by with_unfolding_all rfl) ?_
        replace hf := zf_be hf
        obtain ⟨_, ho, hf⟩ := hf
        replace hf := zf_b2e hf
        obtain ⟨v14, h15, hv, hf⟩ := hf
        refine zv_c zq_103 zo_103 rfl rfl rfl rfl rfl (zv_cv rfl rfl rfl (zf_ise ho) rfl) (t_f_Sheet_differentKeys _ _ _ _ _ _ hv) ?_
        refine zv_p (k := 1) (f' := (93, [(6, .ref v1), (0, .ref p0), (1, .int p1), (2, .long p2), (4, .int p3)], [.long (v14).toInt64])) zq_103 zo_103 (by with_unfolding_all rfl) ?_
        cases hf
        exact zv_r zq_103 zo_103 rfl rfl rfl rfl rfl
    · refine zv_brF (off := 10) (tt := 71) (r := []) zq_103 zo_103 hc rfl rfl rfl ?_
      refine zv_p (k := 3) (f' := (67, [(0, .ref p0), (1, .int p1), (2, .long p2), (4, .int p3)], [.long p2, .int p1, .ref p0])) zq_103 zo_103 (by with_unfolding_all rfl) ?_
      replace hf := zf_be hf
      obtain ⟨_, ho, hf⟩ := hf
      replace hf := zf_b2e hf
      obtain ⟨v16, h17, hv, hf⟩ := hf
      refine zv_c zq_103 zo_103 rfl rfl rfl rfl rfl (zv_cv rfl rfl rfl (zf_ise ho) rfl) (t_f_Sheet_sumOf _ _ _ _ _ _ hv) ?_
      cases hf
      exact zv_r zq_103 zo_103 rfl rfl rfl rfl rfl
  · refine zv_brF (off := 15) (tt := 58) (r := []) zq_103 zo_103 hc rfl rfl rfl ?_
    refine zv_p (k := 3) (f' := (49, [(0, .ref p0), (1, .int p1), (2, .long p2), (4, .int p3)], [.int p1, .ref p0, .long p2])) zq_103 zo_103 (by with_unfolding_all rfl) ?_
    replace hf := zf_be hf
    obtain ⟨_, ho, hf⟩ := hf
    replace hf := zf_b2e hf
    obtain ⟨v18, h19, hv, hf⟩ := hf
    refine zv_c zq_103 zo_103 rfl rfl rfl rfl rfl (zv_cv rfl rfl rfl (zf_ise ho) rfl) (t_f_Sheet_knownRows _ _ _ _ _ hv) ?_
    refine zv_p (k := 1) (f' := (53, [(0, .ref p0), (1, .int p1), (2, .long p2), (4, .int p3)], [.long (p2 &&& v18)])) zq_103 zo_103 (by with_unfolding_all rfl) ?_
    replace hf := zf_b2e hf
    obtain ⟨v20, h21, hv, hf⟩ := hf
    refine zv_c zq_103 zo_103 rfl rfl rfl rfl rfl rfl (t_f_Long_bitCount _ _ _ _ hv) ?_
    refine zv_p (k := 1) (f' := (57, [(0, .ref p0), (1, .int p1), (2, .long p2), (4, .int p3)], [.long (v20).toInt64])) zq_103 zo_103 (by with_unfolding_all rfl) ?_
    cases hf
    exact zv_r zq_103 zo_103 rfl rfl rfl rfl rfl
set_option maxHeartbeats 1000000 in
def f_ColumnVault_totalOf (p0 : Nat) (p1 : Int32) (p2 : Int64) (p3 : Int32) (h : zx_H) : Option ((Int64 ⊕ Nat) × zx_H) :=
  zf_b (zf_is 10 p0 h) fun _ =>
  zf_b2 (f_Sheet_kindOf p0 p1 h) fun v1 h2 =>
  if p3 < 0 then
    if h2.length < zx_lim then some (.inr 14, h2 ++ [.inr (14, [])]) else none
  else
    if (5 : Int32) < p3 then
      if h2.length < zx_lim then some (.inr 14, h2 ++ [.inr (14, [])]) else none
    else
      if ¬ p3 = (1 : Int32) then
        f_ColumnVault_totalOf_41 p0 p1 p2 p3 h2
      else
        if ¬ v1 = (1 : Int32) then
          f_ColumnVault_totalOf_41 p0 p1 p2 p3 h2
        else
          if h2.length < zx_lim then some (.inr 14, h2 ++ [.inr (14, [])]) else none
set_option maxHeartbeats 4000000 in
set_option maxRecDepth 400000 in
theorem t_f_ColumnVault_totalOf {sc : (Nat × (Nat → Int32)) × Bool} {d : Nat} (p0 : Nat) (p1 : Int32) (p2 : Int64) (p3 : Int32) (h : zx_H) (r : (Int64 ⊕ Nat)) (h' : zx_H) (hf : f_ColumnVault_totalOf p0 p1 p2 p3 h = some (r, h')) : zx_T sc (d + 4) 103 (0, [(0, .ref p0), (1, .int p1), (2, .long p2), (4, .int p3)], []) h (zf_oJx r) h' := by
  unfold f_ColumnVault_totalOf at hf
  refine zv_p (k := 2) (f' := (2, [(0, .ref p0), (1, .int p1), (2, .long p2), (4, .int p3)], [.int p1, .ref p0])) zq_103 zo_103 (by with_unfolding_all rfl) ?_
  replace hf := zf_be hf
  obtain ⟨_, ho, hf⟩ := hf
  replace hf := zf_b2e hf
  obtain ⟨v1, h2, hv, hf⟩ := hf
  refine zv_c zq_103 zo_103 rfl rfl rfl rfl rfl (zv_cv rfl rfl rfl (zf_ise ho) rfl) (t_f_Sheet_kindOf _ _ _ _ _ hv) ?_
  refine zv_p (k := 2) (f' := (9, [(5, .int v1), (0, .ref p0), (1, .int p1), (2, .long p2), (4, .int p3)], [.int p3])) zq_103 zo_103 (by with_unfolding_all rfl) ?_
  replace hf := zf_ite hf
  obtain ⟨hc, hf⟩ | ⟨hc, hf⟩ := hf
  · refine zv_brT (off := 21) (tt := 30) (r := []) zq_103 zo_103 hc rfl rfl rfl ?_
    replace hf := zf_ite hf
    obtain ⟨hc, hf⟩ | ⟨hc, hf⟩ := hf
    · cases hf; exact zv_tw zq_103 zo_103 rfl rfl rfl rfl rfl rfl rfl rfl rfl hc
    · cases hf
  · refine zv_brF (off := 21) (tt := 30) (r := []) zq_103 zo_103 hc rfl rfl rfl ?_
    refine zv_p (k := 2) (f' := (15, [(5, .int v1), (0, .ref p0), (1, .int p1), (2, .long p2), (4, .int p3)], [.int (5 : Int32), .int p3])) zq_103 zo_103 (by with_unfolding_all rfl) ?_
    replace hf := zf_ite hf
    obtain ⟨hc, hf⟩ | ⟨hc, hf⟩ := hf
    · refine zv_brT (off := 15) (tt := 30) (r := []) zq_103 zo_103 hc rfl rfl rfl ?_
      replace hf := zf_ite hf
      obtain ⟨hc, hf⟩ | ⟨hc, hf⟩ := hf
      · cases hf; exact zv_tw zq_103 zo_103 rfl rfl rfl rfl rfl rfl rfl rfl rfl hc
      · cases hf
    · refine zv_brF (off := 15) (tt := 30) (r := []) zq_103 zo_103 hc rfl rfl rfl ?_
      refine zv_p (k := 2) (f' := (21, [(5, .int v1), (0, .ref p0), (1, .int p1), (2, .long p2), (4, .int p3)], [.int (1 : Int32), .int p3])) zq_103 zo_103 (by with_unfolding_all rfl) ?_
      replace hf := zf_ite hf
      obtain ⟨hc, hf⟩ | ⟨hc, hf⟩ := hf
      · refine zv_brT (off := 20) (tt := 41) (r := []) zq_103 zo_103 hc rfl rfl rfl ?_
        refine zv_pick (lv' := [(0, .ref p0), (1, .int p1), (2, .long p2), (4, .int p3)]) [0, 1, 2, 4] rfl rfl ?_
        exact t_f_ColumnVault_totalOf_41 _ _ _ _ _ _ _ hf
      · refine zv_brF (off := 20) (tt := 41) (r := []) zq_103 zo_103 hc rfl rfl rfl ?_
        refine zv_p (k := 2) (f' := (27, [(5, .int v1), (0, .ref p0), (1, .int p1), (2, .long p2), (4, .int p3)], [.int (1 : Int32), .int v1])) zq_103 zo_103 (by with_unfolding_all rfl) ?_
        replace hf := zf_ite hf
        obtain ⟨hc, hf⟩ | ⟨hc, hf⟩ := hf
        · refine zv_brT (off := 14) (tt := 41) (r := []) zq_103 zo_103 hc rfl rfl rfl ?_
          refine zv_pick (lv' := [(0, .ref p0), (1, .int p1), (2, .long p2), (4, .int p3)]) [0, 1, 2, 4] rfl rfl ?_
          exact t_f_ColumnVault_totalOf_41 _ _ _ _ _ _ _ hf
        · refine zv_brF (off := 14) (tt := 41) (r := []) zq_103 zo_103 hc rfl rfl rfl ?_
          replace hf := zf_ite hf
          obtain ⟨hc, hf⟩ | ⟨hc, hf⟩ := hf
          · cases hf; exact zv_tw zq_103 zo_103 rfl rfl rfl rfl rfl rfl rfl rfl rfl hc
          · cases hf
/-! ColumnVault.total (III)J -/
noncomputable def zI_102 : zd_T := [[(0, .aload_n 0, 1), (1, .iload_n 1, 1), (2, .iload_n 2, 1), (3, .invokevirtual 91, 3), (6, .astore 4, 2), (8, .aload 4, 2), (10, .iload_n 2, 1), (11, .aload 4, 2), (13, .getfield 133, 3), (16, .iload_n 3, 1), (17, .invokestatic 294, 3), (20, .lreturn, 1)]]
theorem zo_102 : zd_of 102 = some zI_102 := rfl
set_option maxRecDepth 100000 in
theorem zq_102 : zt_m[102]? = some (⟨"ColumnVault", "total", "(III)J"⟩, prog_1_method_30_code, 5, some (.long), [], 12, 3, 0, 0, 0, 0) := rfl
set_option maxHeartbeats 1000000 in
def f_ColumnVault_total (p0 : Nat) (p1 : Int32) (p2 : Int32) (p3 : Int32) (h : zx_H) : Option ((Int64 ⊕ Nat) × zx_H) :=
  zf_b (zf_is 12 p0 h) fun _ =>
  zf_b3 (f_ColumnVault_sheetWith p0 p1 p2 h) fun v1 h2 =>
  zf_b (zf_J 10 5 v1 h2) fun v4 =>
  zf_b3 (f_ColumnVault_totalOf v1 p2 v4 p3 h2) fun v5 h6 =>
  some (.inl v5, h6)
set_option maxHeartbeats 4000000 in
set_option maxRecDepth 400000 in
theorem t_f_ColumnVault_total {sc : (Nat × (Nat → Int32)) × Bool} {d : Nat} (p0 : Nat) (p1 : Int32) (p2 : Int32) (p3 : Int32) (h : zx_H) (r : (Int64 ⊕ Nat)) (h' : zx_H) (hf : f_ColumnVault_total p0 p1 p2 p3 h = some (r, h')) : zx_T sc (d + 5) 102 (0, [(0, .ref p0), (1, .int p1), (2, .int p2), (3, .int p3)], []) h (zf_oJx r) h' := by
  unfold f_ColumnVault_total at hf
  refine zv_p (k := 3) (f' := (3, [(0, .ref p0), (1, .int p1), (2, .int p2), (3, .int p3)], [.int p2, .int p1, .ref p0])) zq_102 zo_102 (by with_unfolding_all rfl) ?_
  replace hf := zf_be hf
  obtain ⟨_, ho, hf⟩ := hf
  replace hf := zf_b3e hf
  obtain ⟨v1, h2, hv, hf⟩ | ⟨E3, h2, hv, hf⟩ := hf
  rotate_left
  · cases hf; exact zv_cx zq_102 zo_102 rfl rfl rfl rfl rfl (zv_cv rfl rfl rfl (zf_ise ho) rfl) (t_f_ColumnVault_sheetWith _ _ _ _ _ _ hv) rfl
  refine zv_c zq_102 zo_102 rfl rfl rfl rfl rfl (zv_cv rfl rfl rfl (zf_ise ho) rfl) (t_f_ColumnVault_sheetWith _ _ _ _ _ _ hv) ?_
  refine zv_p (k := 4) (f' := (13, [(4, .ref v1), (0, .ref p0), (1, .int p1), (2, .int p2), (3, .int p3)], [.ref v1, .int p2, .ref v1])) zq_102 zo_102 (by with_unfolding_all rfl) ?_
  replace hf := zf_be hf
  obtain ⟨v4, hv, hf⟩ := hf
  refine zv_gf zq_102 zo_102 rfl rfl rfl (zf_Je hv) ?_
  refine zv_p (k := 1) (f' := (17, [(4, .ref v1), (0, .ref p0), (1, .int p1), (2, .int p2), (3, .int p3)], [.int p3, .long v4, .int p2, .ref v1])) zq_102 zo_102 (by with_unfolding_all rfl) ?_
  replace hf := zf_b3e hf
  obtain ⟨v5, h6, hv, hf⟩ | ⟨E7, h6, hv, hf⟩ := hf
  rotate_left
  · cases hf; exact zv_cx zq_102 zo_102 rfl rfl rfl rfl rfl rfl (t_f_ColumnVault_totalOf _ _ _ _ _ _ _ hv) rfl
  refine zv_c zq_102 zo_102 rfl rfl rfl rfl rfl rfl (t_f_ColumnVault_totalOf _ _ _ _ _ _ _ hv) ?_
  cases hf
  exact zv_r zq_102 zo_102 rfl rfl rfl rfl rfl
