set_option maxHeartbeats 1000000 in
def f_JoinWays_byLookingUp_7 : Nat → Nat → Nat → Nat → Int32 → zx_H → Option (Nat × zx_H)
  | 0, _, _, _, _, _ => none
  | n + 1, p0, p1, p2, p3, h =>
    zf_b (zf_A 7 0 p0 h) fun v1 =>
    zf_b (zf_I 10 4 v1 h) fun v2 =>
    if v2 ≤ p3 then
      some (p2, h)
    else
      zf_b (zf_A 7 0 p0 h) fun v3 =>
      zf_b (zf_I 7 1 p0 h) fun v4 =>
      zf_b (zf_is 10 v3 h) fun _ =>
      zf_b2 (f_Sheet_keyAt v3 v4 p3 h) fun v5 h6 =>
      if v5 = (-9000000000 : Int64) then
        (f_JoinWays_byLookingUp_7 n) p0 p1 p2 (p3 + (1 : Int32)) h6
      else
        zf_b (zf_A 7 0 p0 h6) fun v7 =>
        zf_b (zf_J 10 5 v7 h6) fun v8 =>
        zf_b2 (f_ColumnVault_holdsRow v8 p3 h6) fun v9 h10 =>
        if v9 = 0 then
          (f_JoinWays_byLookingUp_7 n) p0 p1 p2 (p3 + (1 : Int32)) h10
        else
          zf_b (zf_is 7 p0 h10) fun _ =>
          zf_b2 (f_JoinWays_firstPlaceOf p0 p1 v5 h10) fun v11 h12 =>
          zf_b (zf_is 7 p0 h12) fun _ =>
          zf_b2 (f_JoinWays_rowsWithKeyFrom p0 p1 v11 v5 h12) fun v13 h14 =>
          zf_b (zf_stJ p2 p3 v13 h14) fun h15 =>
          (f_JoinWays_byLookingUp_7 n) p0 p1 p2 (p3 + (1 : Int32)) h15
set_option maxHeartbeats 4000000 in
set_option maxRecDepth 400000 in
theorem t_f_JoinWays_byLookingUp_7 {sc : (Nat × (Nat → Int32)) × Bool} {d : Nat} : ∀ (n : Nat) (p0 : Nat) (p1 : Nat) (p2 : Nat) (p3 : Int32) (h : zx_H) (r : Nat) (h' : zx_H), f_JoinWays_byLookingUp_7 n p0 p1 p2 p3 h = some (r, h') → zx_T sc (d + 2) 290 (7, [(0, .ref p0), (1, .ref p1), (2, .ref p2), (3, .int p3)], []) h (zf_oA r) h' := by
  intro n
  induction n with
  | zero => intro p0 p1 p2 p3 h r h' hf; cases hf
  | succ n ih =>
    intro p0 p1 p2 p3 h r h' hf
    unfold f_JoinWays_byLookingUp_7 at hf
    refine zv_p (k := 2) (f' := (9, [(0, .ref p0), (1, .ref p1), (2, .ref p2), (3, .int p3)], [.ref p0, .int p3])) zq_290 zo_290 (by with_unfolding_all rfl) ?_
    replace hf := zf_be hf
    obtain ⟨v1, hv, hf⟩ := hf
    refine zv_gf zq_290 zo_290 rfl rfl rfl (zf_Ae hv) ?_
    replace hf := zf_be hf
    obtain ⟨v2, hv, hf⟩ := hf
    refine zv_gf zq_290 zo_290 rfl rfl rfl (zf_Ie hv) ?_
    replace hf := zf_ite hf
    obtain ⟨hc, hf⟩ | ⟨hc, hf⟩ := hf
    · refine zv_brT (off := 63) (tt := 78) (r := []) zq_290 zo_290 hc rfl rfl rfl ?_
      refine zv_p (k := 1) (f' := (79, [(0, .ref p0), (1, .ref p1), (2, .ref p2), (3, .int p3)], [.ref p2])) zq_290 zo_290 (by with_unfolding_all rfl) ?_
      cases hf
      exact zv_r zq_290 zo_290 rfl rfl rfl rfl rfl
    · refine zv_brF (off := 63) (tt := 78) (r := []) zq_290 zo_290 hc rfl rfl rfl ?_
      refine zv_p (k := 1) (f' := (19, [(0, .ref p0), (1, .ref p1), (2, .ref p2), (3, .int p3)], [.ref p0])) zq_290 zo_290 (by with_unfolding_all rfl) ?_
      replace hf := zf_be hf
      obtain ⟨v3, hv, hf⟩ := hf
      refine zv_gf zq_290 zo_290 rfl rfl rfl (zf_Ae hv) ?_
      refine zv_p (k := 1) (f' := (23, [(0, .ref p0), (1, .ref p1), (2, .ref p2), (3, .int p3)], [.ref p0, .ref v3])) zq_290 zo_290 (by with_unfolding_all rfl) ?_
      replace hf := zf_be hf
      obtain ⟨v4, hv, hf⟩ := hf
      refine zv_gf zq_290 zo_290 rfl rfl rfl (zf_Ie hv) ?_
      refine zv_p (k := 1) (f' := (27, [(0, .ref p0), (1, .ref p1), (2, .ref p2), (3, .int p3)], [.int p3, .int v4, .ref v3])) zq_290 zo_290 (by with_unfolding_all rfl) ?_
      replace hf := zf_be hf
      obtain ⟨_, ho, hf⟩ := hf
      replace hf := zf_b2e hf
      obtain ⟨v5, h6, hv, hf⟩ := hf
      refine zv_c zq_290 zo_290 rfl rfl rfl rfl rfl (zv_cv rfl rfl rfl (zf_ise ho) rfl) (t_f_Sheet_keyAt _ _ _ _ _ _ hv) ?_
      refine zv_p (k := 2) (f' := (34, [(4, .long v5), (0, .ref p0), (1, .ref p1), (2, .ref p2), (3, .int p3)], [.long v5])) zq_290 zo_290 (by with_unfolding_all rfl) ?_
      refine zv_lng zq_290 zo_290 rfl rfl ?_
      refine zv_p (k := 1) (f' := (38, [(4, .long v5), (0, .ref p0), (1, .ref p1), (2, .ref p2), (3, .int p3)], [.int (lg_cmp v5 (-9000000000 : Int64))])) zq_290 zo_290 (by with_unfolding_all rfl) ?_
      replace hf := zf_ite hf
      obtain ⟨hc, hf⟩ | ⟨hc, hf⟩ := hf
      · refine zv_brT (off := 34) (tt := 72) (r := []) zq_290 zo_290 (zl_eq.mpr hc) rfl rfl rfl ?_
        refine zv_p (k := 2) (f' := (7, [(3, .int (p3 + (1 : Int32))), (4, .long v5), (0, .ref p0), (1, .ref p1), (2, .ref p2)], [])) zq_290 zo_290 (by with_unfolding_all rfl) ?_
        refine zv_pick (lv' := [(0, .ref p0), (1, .ref p1), (2, .ref p2), (3, .int (p3 + (1 : Int32)))]) [0, 1, 2, 3] rfl rfl ?_
        exact ih _ _ _ _ _ _ _ hf
      · refine zv_brF (off := 34) (tt := 72) (r := []) zq_290 zo_290 (mt zl_eq.mp hc) rfl rfl rfl ?_
        refine zv_p (k := 1) (f' := (42, [(4, .long v5), (0, .ref p0), (1, .ref p1), (2, .ref p2), (3, .int p3)], [.ref p0])) zq_290 zo_290 (by with_unfolding_all rfl) ?_
        replace hf := zf_be hf
        obtain ⟨v7, hv, hf⟩ := hf
        refine zv_gf zq_290 zo_290 rfl rfl rfl (zf_Ae hv) ?_
        replace hf := zf_be hf
        obtain ⟨v8, hv, hf⟩ := hf
        refine zv_gf zq_290 zo_290 rfl rfl rfl (zf_Je hv) ?_
        refine zv_p (k := 1) (f' := (49, [(4, .long v5), (0, .ref p0), (1, .ref p1), (2, .ref p2), (3, .int p3)], [.int p3, .long v8])) zq_290 zo_290 (by with_unfolding_all rfl) ?_
        replace hf := zf_b2e hf
        obtain ⟨v9, h10, hv, hf⟩ := hf
        refine zv_c zq_290 zo_290 rfl rfl rfl rfl rfl rfl (t_f_ColumnVault_holdsRow _ _ _ _ _ hv) ?_
        replace hf := zf_ite hf
        obtain ⟨hc, hf⟩ | ⟨hc, hf⟩ := hf
        · refine zv_brT (off := 20) (tt := 72) (r := []) zq_290 zo_290 hc rfl rfl rfl ?_
          refine zv_p (k := 2) (f' := (7, [(3, .int (p3 + (1 : Int32))), (4, .long v5), (0, .ref p0), (1, .ref p1), (2, .ref p2)], [])) zq_290 zo_290 (by with_unfolding_all rfl) ?_
          refine zv_pick (lv' := [(0, .ref p0), (1, .ref p1), (2, .ref p2), (3, .int (p3 + (1 : Int32)))]) [0, 1, 2, 3] rfl rfl ?_
          exact ih _ _ _ _ _ _ _ hf
        · refine zv_brF (off := 20) (tt := 72) (r := []) zq_290 zo_290 hc rfl rfl rfl ?_
          refine zv_p (k := 7) (f' := (63, [(4, .long v5), (0, .ref p0), (1, .ref p1), (2, .ref p2), (3, .int p3)], [.long v5, .ref p1, .ref p0, .ref p1, .ref p0, .int p3, .ref p2])) zq_290 zo_290 (by with_unfolding_all rfl) ?_
          replace hf := zf_be hf
          obtain ⟨_, ho, hf⟩ := hf
          replace hf := zf_b2e hf
          obtain ⟨v11, h12, hv, hf⟩ := hf
          refine zv_c zq_290 zo_290 rfl rfl rfl rfl rfl (zv_cv rfl rfl rfl (zf_ise ho) rfl) (t_f_JoinWays_firstPlaceOf _ _ _ _ _ _ hv) ?_
          refine zv_p (k := 1) (f' := (68, [(4, .long v5), (0, .ref p0), (1, .ref p1), (2, .ref p2), (3, .int p3)], [.long v5, .int v11, .ref p1, .ref p0, .int p3, .ref p2])) zq_290 zo_290 (by with_unfolding_all rfl) ?_
          replace hf := zf_be hf
          obtain ⟨_, ho, hf⟩ := hf
          replace hf := zf_b2e hf
          obtain ⟨v13, h14, hv, hf⟩ := hf
          refine zv_c zq_290 zo_290 rfl rfl rfl rfl rfl (zv_cv rfl rfl rfl (zf_ise ho) rfl) (t_f_JoinWays_rowsWithKeyFrom _ _ _ _ _ _ _ hv) ?_
          replace hf := zf_be hf
          obtain ⟨h15, hv, hf⟩ := hf
          refine zv_stJ zq_290 zo_290 rfl hv ?_
          refine zv_p (k := 2) (f' := (7, [(3, .int (p3 + (1 : Int32))), (4, .long v5), (0, .ref p0), (1, .ref p1), (2, .ref p2)], [])) zq_290 zo_290 (by with_unfolding_all rfl) ?_
          refine zv_pick (lv' := [(0, .ref p0), (1, .ref p1), (2, .ref p2), (3, .int (p3 + (1 : Int32)))]) [0, 1, 2, 3] rfl rfl ?_
          exact ih _ _ _ _ _ _ _ hf
set_option maxHeartbeats 1000000 in
def f_JoinWays_byLookingUp (p0 : Nat) (p1 : Nat) (h : zx_H) : Option (Nat × zx_H) :=
  zf_b2 (zf_newa .long 2 (40 : Int32) h) fun q1 h2 =>
  f_JoinWays_byLookingUp_7 zF p0 p1 q1 (0 : Int32) h2
set_option maxHeartbeats 4000000 in
set_option maxRecDepth 400000 in
theorem t_f_JoinWays_byLookingUp {sc : (Nat × (Nat → Int32)) × Bool} {d : Nat} (p0 : Nat) (p1 : Nat) (h : zx_H) (r : Nat) (h' : zx_H) (hf : f_JoinWays_byLookingUp p0 p1 h = some (r, h')) : zx_T sc (d + 2) 290 (0, [(0, .ref p0), (1, .ref p1)], []) h (zf_oA r) h' := by
  unfold f_JoinWays_byLookingUp at hf
  refine zv_p (k := 1) (f' := (2, [(0, .ref p0), (1, .ref p1)], [.int (40 : Int32)])) zq_290 zo_290 (by with_unfolding_all rfl) ?_
  replace hf := zf_b2e hf
  obtain ⟨q1, h2, hv, hf⟩ := hf
  refine zv_newa zq_290 zo_290 rfl rfl hv ?_
  refine zv_p (k := 3) (f' := (7, [(3, .int (0 : Int32)), (2, .ref q1), (0, .ref p0), (1, .ref p1)], [])) zq_290 zo_290 (by with_unfolding_all rfl) ?_
  refine zv_pick (lv' := [(0, .ref p0), (1, .ref p1), (2, .ref q1), (3, .int (0 : Int32))]) [0, 1, 2, 3] rfl rfl ?_
  exact t_f_JoinWays_byLookingUp_7 zF _ _ _ _ _ _ _ hf
/-! ColumnVault$JoinWays.byTrying ()arr J -/
noncomputable def zI_292 : zd_T := [[(0, .bipush 40, 2), (2, .newarray .long, 2), (4, .astore_n 1, 1), (5, .iconst 0, 1), (6, .istore_n 2, 1), (7, .iload_n 2, 1), (8, .aload_n 0, 1), (9, .getfield 9, 3), (12, .getfield 67, 3), (15, .if_icmp .ge 108, 3), (18, .aload_n 0, 1), (19, .getfield 9, 3), (22, .aload_n 0, 1), (23, .getfield 15, 3), (26, .iload_n 2, 1), (27, .invokevirtual 55, 3), (30, .lstore_n 3, 1), (31, .iconst 0, 1)], [(32, .istore 5, 2), (34, .iload 5, 2), (36, .aload_n 0, 1), (37, .getfield 19, 3), (40, .getfield 67, 3), (43, .if_icmp .ge 74, 3), (46, .lload_n 3, 1), (47, .ldc2_w 70, 3), (50, .lcmp, 1), (51, .ifCond .eq 60, 3), (54, .lload_n 3, 1), (55, .aload_n 0, 1), (56, .getfield 19, 3), (59, .aload_n 0, 1), (60, .getfield 22, 3), (63, .iload 5, 2)], [(65, .invokevirtual 55, 3), (68, .lcmp, 1), (69, .ifCond .ne 42, 3), (72, .aload_n 0, 1), (73, .getfield 9, 3), (76, .getfield 25, 3), (79, .iload_n 2, 1), (80, .invokestatic 72, 3), (83, .ifCond .eq 28, 3), (86, .aload_n 0, 1), (87, .getfield 19, 3), (90, .getfield 25, 3), (93, .iload 5, 2), (95, .invokestatic 72, 3)], [(98, .ifCond .eq 13, 3), (101, .aload_n 1, 1), (102, .iload_n 2, 1), (103, .dup2, 1), (104, .laload, 1), (105, .lconst 1, 1), (106, .iload 5, 2), (108, .lshl, 1), (109, .lor, 1), (110, .lastore, 1), (111, .iinc 5 1, 3), (114, .goto (-80), 3), (117, .iinc 2 1, 3), (120, .goto (-113), 3), (123, .aload_n 1, 1), (124, .areturn, 1)]]
theorem zo_292 : zd_of 292 = some zI_292 := rfl
set_option maxRecDepth 100000 in
theorem zq_292 : zt_m[292]? = some (⟨"ColumnVault$JoinWays", "byTrying", "()[J"⟩, prog_7_method_7_code, 6, some (.array (.long)), [], 7, 0, 0, 0, 0, 0) := rfl
set_option maxHeartbeats 1000000 in
def f_JoinWays_byTrying_34 (k7 : Nat → Nat → Int32 → zx_H → Option (Nat × zx_H)) : Nat → Nat → Nat → Int32 → Int64 → Int32 → zx_H → Option (Nat × zx_H)
  | 0, _, _, _, _, _, _ => none
  | n + 1, p0, p1, p2, p3, p4, h =>
    zf_b (zf_A 7 2 p0 h) fun v1 =>
    zf_b (zf_I 10 4 v1 h) fun v2 =>
    if v2 ≤ p4 then
      k7 p0 p1 (p2 + (1 : Int32)) h
    else
      if p3 = (-9000000000 : Int64) then
        (f_JoinWays_byTrying_34 k7 n) p0 p1 p2 p3 (p4 + (1 : Int32)) h
      else
        zf_b (zf_A 7 2 p0 h) fun v3 =>
        zf_b (zf_I 7 3 p0 h) fun v4 =>
        zf_b (zf_is 10 v3 h) fun _ =>
        zf_b2 (f_Sheet_keyAt v3 v4 p4 h) fun v5 h6 =>
        if ¬ p3 = v5 then
          (f_JoinWays_byTrying_34 k7 n) p0 p1 p2 p3 (p4 + (1 : Int32)) h6
        else
          zf_b (zf_A 7 0 p0 h6) fun v7 =>
          zf_b (zf_J 10 5 v7 h6) fun v8 =>
          zf_b2 (f_ColumnVault_holdsRow v8 p2 h6) fun v9 h10 =>
          if v9 = 0 then
            (f_JoinWays_byTrying_34 k7 n) p0 p1 p2 p3 (p4 + (1 : Int32)) h10
          else
            zf_b (zf_A 7 2 p0 h10) fun v11 =>
            zf_b (zf_J 10 5 v11 h10) fun v12 =>
            zf_b2 (f_ColumnVault_holdsRow v12 p4 h10) fun v13 h14 =>
            if v13 = 0 then
              (f_JoinWays_byTrying_34 k7 n) p0 p1 p2 p3 (p4 + (1 : Int32)) h14
            else
              zf_b (zf_ldJ p1 p2 h14) fun v15 =>
              zf_b (zf_stJ p1 p2 (v15 ||| ((1 : Int64) <<< ((p4).toInt64 &&& 63))) h14) fun h16 =>
              (f_JoinWays_byTrying_34 k7 n) p0 p1 p2 p3 (p4 + (1 : Int32)) h16
set_option maxHeartbeats 4000000 in
set_option maxRecDepth 400000 in
theorem t_f_JoinWays_byTrying_34 {sc : (Nat × (Nat → Int32)) × Bool} {d : Nat} {k7 : Nat → Nat → Int32 → zx_H → Option (Nat × zx_H)} (hk7 : ∀ (a0 : Nat) (a1 : Nat) (a2 : Int32) (h : zx_H) (r : Nat) (h' : zx_H), k7 a0 a1 a2 h = some (r, h') → zx_T sc (d + 1) 292 (7, [(0, .ref a0), (1, .ref a1), (2, .int a2)], []) h (zf_oA r) h') : ∀ (n : Nat) (p0 : Nat) (p1 : Nat) (p2 : Int32) (p3 : Int64) (p4 : Int32) (h : zx_H) (r : Nat) (h' : zx_H), f_JoinWays_byTrying_34 k7 n p0 p1 p2 p3 p4 h = some (r, h') → zx_T sc (d + 1) 292 (34, [(0, .ref p0), (1, .ref p1), (2, .int p2), (3, .long p3), (5, .int p4)], []) h (zf_oA r) h' := by
  intro n
  induction n with
  | zero => intro p0 p1 p2 p3 p4 h r h' hf; cases hf
  | succ n ih =>
    intro p0 p1 p2 p3 p4 h r h' hf
    unfold f_JoinWays_byTrying_34 at hf
    refine zv_p (k := 2) (f' := (37, [(0, .ref p0), (1, .ref p1), (2, .int p2), (3, .long p3), (5, .int p4)], [.ref p0, .int p4])) zq_292 zo_292 (by with_unfolding_all rfl) ?_
    replace hf := zf_be hf
    obtain ⟨v1, hv, hf⟩ := hf
    refine zv_gf zq_292 zo_292 rfl rfl rfl (zf_Ae hv) ?_
    replace hf := zf_be hf
    obtain ⟨v2, hv, hf⟩ := hf
    refine zv_gf zq_292 zo_292 rfl rfl rfl (zf_Ie hv) ?_
    replace hf := zf_ite hf
    obtain ⟨hc, hf⟩ | ⟨hc, hf⟩ := hf
    · refine zv_brT (off := 74) (tt := 117) (r := []) zq_292 zo_292 hc rfl rfl rfl ?_
      refine zv_p (k := 2) (f' := (7, [(2, .int (p2 + (1 : Int32))), (0, .ref p0), (1, .ref p1), (3, .long p3), (5, .int p4)], [])) zq_292 zo_292 (by with_unfolding_all rfl) ?_
      refine zv_pick (lv' := [(0, .ref p0), (1, .ref p1), (2, .int (p2 + (1 : Int32)))]) [0, 1, 2] rfl rfl ?_
      exact hk7 _ _ _ _ _ _ hf
    · refine zv_brF (off := 74) (tt := 117) (r := []) zq_292 zo_292 hc rfl rfl rfl ?_
      refine zv_p (k := 1) (f' := (47, [(0, .ref p0), (1, .ref p1), (2, .int p2), (3, .long p3), (5, .int p4)], [.long p3])) zq_292 zo_292 (by with_unfolding_all rfl) ?_
      refine zv_lng zq_292 zo_292 rfl rfl ?_
      refine zv_p (k := 1) (f' := (51, [(0, .ref p0), (1, .ref p1), (2, .int p2), (3, .long p3), (5, .int p4)], [.int (lg_cmp p3 (-9000000000 : Int64))])) zq_292 zo_292 (by with_unfolding_all rfl) ?_
      replace hf := zf_ite hf
      obtain ⟨hc, hf⟩ | ⟨hc, hf⟩ := hf
      · refine zv_brT (off := 60) (tt := 111) (r := []) zq_292 zo_292 (zl_eq.mpr hc) rfl rfl rfl ?_
        refine zv_p (k := 2) (f' := (34, [(5, .int (p4 + (1 : Int32))), (0, .ref p0), (1, .ref p1), (2, .int p2), (3, .long p3)], [])) zq_292 zo_292 (by with_unfolding_all rfl) ?_
        refine zv_pick (lv' := [(0, .ref p0), (1, .ref p1), (2, .int p2), (3, .long p3), (5, .int (p4 + (1 : Int32)))]) [0, 1, 2, 3, 5] rfl rfl ?_
        exact ih _ _ _ _ _ _ _ _ hf
      · refine zv_brF (off := 60) (tt := 111) (r := []) zq_292 zo_292 (mt zl_eq.mp hc) rfl rfl rfl ?_
        refine zv_p (k := 2) (f' := (56, [(0, .ref p0), (1, .ref p1), (2, .int p2), (3, .long p3), (5, .int p4)], [.ref p0, .long p3])) zq_292 zo_292 (by with_unfolding_all rfl) ?_
        replace hf := zf_be hf
        obtain ⟨v3, hv, hf⟩ := hf
        refine zv_gf zq_292 zo_292 rfl rfl rfl (zf_Ae hv) ?_
        refine zv_p (k := 1) (f' := (60, [(0, .ref p0), (1, .ref p1), (2, .int p2), (3, .long p3), (5, .int p4)], [.ref p0, .ref v3, .long p3])) zq_292 zo_292 (by with_unfolding_all rfl) ?_
        replace hf := zf_be hf
        obtain ⟨v4, hv, hf⟩ := hf
        refine zv_gf zq_292 zo_292 rfl rfl rfl (zf_Ie hv) ?_
        refine zv_p (k := 1) (f' := (65, [(0, .ref p0), (1, .ref p1), (2, .int p2), (3, .long p3), (5, .int p4)], [.int p4, .int v4, .ref v3, .long p3])) zq_292 zo_292 (by with_unfolding_all rfl) ?_
        replace hf := zf_be hf
        obtain ⟨_, ho, hf⟩ := hf
        replace hf := zf_b2e hf
        obtain ⟨v5, h6, hv, hf⟩ := hf
        refine zv_c zq_292 zo_292 rfl rfl rfl rfl rfl (zv_cv rfl rfl rfl (zf_ise ho) rfl) (t_f_Sheet_keyAt _ _ _ _ _ _ hv) ?_
        refine zv_p (k := 1) (f' := (69, [(0, .ref p0), (1, .ref p1), (2, .int p2), (3, .long p3), (5, .int p4)], [.int (lg_cmp p3 v5)])) zq_292 zo_292 (by with_unfolding_all rfl) ?_
        replace hf := zf_ite hf
        obtain ⟨hc, hf⟩ | ⟨hc, hf⟩ := hf
        · refine zv_brT (off := 42) (tt := 111) (r := []) zq_292 zo_292 (zl_ne.mpr hc) rfl rfl rfl ?_
          refine zv_p (k := 2) (f' := (34, [(5, .int (p4 + (1 : Int32))), (0, .ref p0), (1, .ref p1), (2, .int p2), (3, .long p3)], [])) zq_292 zo_292 (by with_unfolding_all rfl) ?_
          refine zv_pick (lv' := [(0, .ref p0), (1, .ref p1), (2, .int p2), (3, .long p3), (5, .int (p4 + (1 : Int32)))]) [0, 1, 2, 3, 5] rfl rfl ?_
          exact ih _ _ _ _ _ _ _ _ hf
        · refine zv_brF (off := 42) (tt := 111) (r := []) zq_292 zo_292 (mt zl_ne.mp hc) rfl rfl rfl ?_
          refine zv_p (k := 1) (f' := (73, [(0, .ref p0), (1, .ref p1), (2, .int p2), (3, .long p3), (5, .int p4)], [.ref p0])) zq_292 zo_292 (by with_unfolding_all rfl) ?_
          replace hf := zf_be hf
          obtain ⟨v7, hv, hf⟩ := hf
          refine zv_gf zq_292 zo_292 rfl rfl rfl (zf_Ae hv) ?_
          replace hf := zf_be hf
          obtain ⟨v8, hv, hf⟩ := hf
          refine zv_gf zq_292 zo_292 rfl rfl rfl (zf_Je hv) ?_
          refine zv_p (k := 1) (f' := (80, [(0, .ref p0), (1, .ref p1), (2, .int p2), (3, .long p3), (5, .int p4)], [.int p2, .long v8])) zq_292 zo_292 (by with_unfolding_all rfl) ?_
          replace hf := zf_b2e hf
          obtain ⟨v9, h10, hv, hf⟩ := hf
          refine zv_c zq_292 zo_292 rfl rfl rfl rfl rfl rfl (t_f_ColumnVault_holdsRow _ _ _ _ _ hv) ?_
          replace hf := zf_ite hf
          obtain ⟨hc, hf⟩ | ⟨hc, hf⟩ := hf
          · refine zv_brT (off := 28) (tt := 111) (r := []) zq_292 zo_292 hc rfl rfl rfl ?_
            refine zv_p (k := 2) (f' := (34, [(5, .int (p4 + (1 : Int32))), (0, .ref p0), (1, .ref p1), (2, .int p2), (3, .long p3)], [])) zq_292 zo_292 (by with_unfolding_all rfl) ?_
            refine zv_pick (lv' := [(0, .ref p0), (1, .ref p1), (2, .int p2), (3, .long p3), (5, .int (p4 + (1 : Int32)))]) [0, 1, 2, 3, 5] rfl rfl ?_
            exact ih _ _ _ _ _ _ _ _ hf
          · refine zv_brF (off := 28) (tt := 111) (r := []) zq_292 zo_292 hc rfl rfl rfl ?_
            refine zv_p (k := 1) (f' := (87, [(0, .ref p0), (1, .ref p1), (2, .int p2), (3, .long p3), (5, .int p4)], [.ref p0])) zq_292 zo_292 (by with_unfolding_all rfl) ?_
            replace hf := zf_be hf
            obtain ⟨v11, hv, hf⟩ := hf
            refine zv_gf zq_292 zo_292 rfl rfl rfl (zf_Ae hv) ?_
            replace hf := zf_be hf
            obtain ⟨v12, hv, hf⟩ := hf
            refine zv_gf zq_292 zo_292 rfl rfl rfl (zf_Je hv) ?_
            refine zv_p (k := 1) (f' := (95, [(0, .ref p0), (1, .ref p1), (2, .int p2), (3, .long p3), (5, .int p4)], [.int p4, .long v12])) zq_292 zo_292 (by with_unfolding_all rfl) ?_
            replace hf := zf_b2e hf
            obtain ⟨v13, h14, hv, hf⟩ := hf
            refine zv_c zq_292 zo_292 rfl rfl rfl rfl rfl rfl (t_f_ColumnVault_holdsRow _ _ _ _ _ hv) ?_
            replace hf := zf_ite hf
            obtain ⟨hc, hf⟩ | ⟨hc, hf⟩ := hf
            · refine zv_brT (off := 13) (tt := 111) (r := []) zq_292 zo_292 hc rfl rfl rfl ?_
              refine zv_p (k := 2) (f' := (34, [(5, .int (p4 + (1 : Int32))), (0, .ref p0), (1, .ref p1), (2, .int p2), (3, .long p3)], [])) zq_292 zo_292 (by with_unfolding_all rfl) ?_
              refine zv_pick (lv' := [(0, .ref p0), (1, .ref p1), (2, .int p2), (3, .long p3), (5, .int (p4 + (1 : Int32)))]) [0, 1, 2, 3, 5] rfl rfl ?_
              exact ih _ _ _ _ _ _ _ _ hf
            · refine zv_brF (off := 13) (tt := 111) (r := []) zq_292 zo_292 hc rfl rfl rfl ?_
              refine zv_p (k := 3) (f' := (104, [(0, .ref p0), (1, .ref p1), (2, .int p2), (3, .long p3), (5, .int p4)], [.int p2, .ref p1, .int p2, .ref p1])) zq_292 zo_292 (by with_unfolding_all rfl) ?_
              replace hf := zf_be hf
              obtain ⟨v15, hv, hf⟩ := hf
              refine zv_ldJ zq_292 zo_292 rfl hv ?_
              refine zv_p (k := 4) (f' := (110, [(0, .ref p0), (1, .ref p1), (2, .int p2), (3, .long p3), (5, .int p4)], [.long (v15 ||| ((1 : Int64) <<< ((p4).toInt64 &&& 63))), .int p2, .ref p1])) zq_292 zo_292 (by with_unfolding_all rfl) ?_
              replace hf := zf_be hf
              obtain ⟨h16, hv, hf⟩ := hf
              refine zv_stJ zq_292 zo_292 rfl hv ?_
              refine zv_p (k := 2) (f' := (34, [(5, .int (p4 + (1 : Int32))), (0, .ref p0), (1, .ref p1), (2, .int p2), (3, .long p3)], [])) zq_292 zo_292 (by with_unfolding_all rfl) ?_
              refine zv_pick (lv' := [(0, .ref p0), (1, .ref p1), (2, .int p2), (3, .long p3), (5, .int (p4 + (1 : Int32)))]) [0, 1, 2, 3, 5] rfl rfl ?_
              exact ih _ _ _ _ _ _ _ _ hf
set_option maxHeartbeats 1000000 in
def f_JoinWays_byTrying_7 : Nat → Nat → Nat → Int32 → zx_H → Option (Nat × zx_H)
  | 0, _, _, _, _ => none
  | n + 1, p0, p1, p2, h =>
    zf_b (zf_A 7 0 p0 h) fun v1 =>
    zf_b (zf_I 10 4 v1 h) fun v2 =>
    if v2 ≤ p2 then
      some (p1, h)
    else
      zf_b (zf_A 7 0 p0 h) fun v3 =>
      zf_b (zf_I 7 1 p0 h) fun v4 =>
      zf_b (zf_is 10 v3 h) fun _ =>
      zf_b2 (f_Sheet_keyAt v3 v4 p2 h) fun v5 h6 =>
      f_JoinWays_byTrying_34 (f_JoinWays_byTrying_7 n) zF p0 p1 p2 v5 (0 : Int32) h6
set_option maxHeartbeats 4000000 in
set_option maxRecDepth 400000 in
theorem t_f_JoinWays_byTrying_7 {sc : (Nat × (Nat → Int32)) × Bool} {d : Nat} : ∀ (n : Nat) (p0 : Nat) (p1 : Nat) (p2 : Int32) (h : zx_H) (r : Nat) (h' : zx_H), f_JoinWays_byTrying_7 n p0 p1 p2 h = some (r, h') → zx_T sc (d + 1) 292 (7, [(0, .ref p0), (1, .ref p1), (2, .int p2)], []) h (zf_oA r) h' := by
  intro n
  induction n with
  | zero => intro p0 p1 p2 h r h' hf; cases hf
  | succ n ih =>
    intro p0 p1 p2 h r h' hf
    unfold f_JoinWays_byTrying_7 at hf
    refine zv_p (k := 2) (f' := (9, [(0, .ref p0), (1, .ref p1), (2, .int p2)], [.ref p0, .int p2])) zq_292 zo_292 (by with_unfolding_all rfl) ?_
    replace hf := zf_be hf
    obtain ⟨v1, hv, hf⟩ := hf
    refine zv_gf zq_292 zo_292 rfl rfl rfl (zf_Ae hv) ?_
    replace hf := zf_be hf
    obtain ⟨v2, hv, hf⟩ := hf
    refine zv_gf zq_292 zo_292 rfl rfl rfl (zf_Ie hv) ?_
    replace hf := zf_ite hf
    obtain ⟨hc, hf⟩ | ⟨hc, hf⟩ := hf
    · refine zv_brT (off := 108) (tt := 123) (r := []) zq_292 zo_292 hc rfl rfl rfl ?_
      refine zv_p (k := 1) (f' := (124, [(0, .ref p0), (1, .ref p1), (2, .int p2)], [.ref p1])) zq_292 zo_292 (by with_unfolding_all rfl) ?_
      cases hf
      exact zv_r zq_292 zo_292 rfl rfl rfl rfl rfl
    · refine zv_brF (off := 108) (tt := 123) (r := []) zq_292 zo_292 hc rfl rfl rfl ?_
      refine zv_p (k := 1) (f' := (19, [(0, .ref p0), (1, .ref p1), (2, .int p2)], [.ref p0])) zq_292 zo_292 (by with_unfolding_all rfl) ?_
      replace hf := zf_be hf
      obtain ⟨v3, hv, hf⟩ := hf
      refine zv_gf zq_292 zo_292 rfl rfl rfl (zf_Ae hv) ?_
      refine zv_p (k := 1) (f' := (23, [(0, .ref p0), (1, .ref p1), (2, .int p2)], [.ref p0, .ref v3])) zq_292 zo_292 (by with_unfolding_all rfl) ?_
      replace hf := zf_be hf
      obtain ⟨v4, hv, hf⟩ := hf
      refine zv_gf zq_292 zo_292 rfl rfl rfl (zf_Ie hv) ?_
      refine zv_p (k := 1) (f' := (27, [(0, .ref p0), (1, .ref p1), (2, .int p2)], [.int p2, .int v4, .ref v3])) zq_292 zo_292 (by with_unfolding_all rfl) ?_
      replace hf := zf_be hf
      obtain ⟨_, ho, hf⟩ := hf
      replace hf := zf_b2e hf
      obtain ⟨v5, h6, hv, hf⟩ := hf
      refine zv_c zq_292 zo_292 rfl rfl rfl rfl rfl (zv_cv rfl rfl rfl (zf_ise ho) rfl) (t_f_Sheet_keyAt _ _ _ _ _ _ hv) ?_
      refine zv_p (k := 3) (f' := (34, [(5, .int (0 : Int32)), (3, .long v5), (0, .ref p0), (1, .ref p1), (2, .int p2)], [])) zq_292 zo_292 (by with_unfolding_all rfl) ?_
      refine zv_pick (lv' := [(0, .ref p0), (1, .ref p1), (2, .int p2), (3, .long v5), (5, .int (0 : Int32))]) [0, 1, 2, 3, 5] rfl rfl ?_
      exact t_f_JoinWays_byTrying_34 ih zF _ _ _ _ _ _ _ _ hf
set_option maxHeartbeats 1000000 in
def f_JoinWays_byTrying (p0 : Nat) (h : zx_H) : Option (Nat × zx_H) :=
  zf_b2 (zf_newa .long 2 (40 : Int32) h) fun q1 h2 =>
  f_JoinWays_byTrying_7 zF p0 q1 (0 : Int32) h2
set_option maxHeartbeats 4000000 in
set_option maxRecDepth 400000 in
theorem t_f_JoinWays_byTrying {sc : (Nat × (Nat → Int32)) × Bool} {d : Nat} (p0 : Nat) (h : zx_H) (r : Nat) (h' : zx_H) (hf : f_JoinWays_byTrying p0 h = some (r, h')) : zx_T sc (d + 1) 292 (0, [(0, .ref p0)], []) h (zf_oA r) h' := by
  unfold f_JoinWays_byTrying at hf
  refine zv_p (k := 1) (f' := (2, [(0, .ref p0)], [.int (40 : Int32)])) zq_292 zo_292 (by with_unfolding_all rfl) ?_
  replace hf := zf_b2e hf
  obtain ⟨q1, h2, hv, hf⟩ := hf
  refine zv_newa zq_292 zo_292 rfl rfl hv ?_
  refine zv_p (k := 3) (f' := (7, [(2, .int (0 : Int32)), (1, .ref q1), (0, .ref p0)], [])) zq_292 zo_292 (by with_unfolding_all rfl) ?_
  refine zv_pick (lv' := [(0, .ref p0), (1, .ref q1), (2, .int (0 : Int32))]) [0, 1, 2] rfl rfl ?_
  exact t_f_JoinWays_byTrying_7 zF _ _ _ _ _ _ hf
/-! ColumnVault$JoinWays.pairsNotToldByAll ()I -/
noncomputable def zI_287 : zd_T := [[(0, .aload_n 0, 1), (1, .getfield 19, 3), (4, .aload_n 0, 1), (5, .getfield 22, 3), (8, .aload_n 0, 1), (9, .getfield 19, 3), (12, .getfield 25, 3), (15, .invokevirtual 31, 3), (18, .astore_n 1, 1), (19, .aload_n 0, 1), (20, .aload_n 0, 1), (21, .getfield 9, 3), (24, .aload_n 0, 1), (25, .getfield 15, 3), (28, .aload_n 0, 1), (29, .getfield 9, 3)], [(32, .getfield 25, 3), (35, .invokevirtual 31, 3), (38, .aload_n 1, 1), (39, .invokevirtual 35, 3), (42, .astore_n 2, 1), (43, .aload_n 0, 1), (44, .aload_n 1, 1), (45, .invokevirtual 39, 3), (48, .astore_n 3, 1), (49, .aload_n 0, 1), (50, .invokevirtual 43, 3), (53, .astore 4, 2), (55, .iconst 0, 1), (56, .istore 5, 2), (58, .iconst 0, 1), (59, .istore 6, 2), (61, .iload 6, 2), (63, .bipush 40, 2)], [(65, .if_icmp .ge 56, 3), (68, .aload_n 2, 1), (69, .iload 6, 2), (71, .laload, 1), (72, .aload_n 3, 1), (73, .iload 6, 2), (75, .laload, 1), (76, .lor, 1), (77, .aload 4, 2), (79, .iload 6, 2), (81, .laload, 1), (82, .lor, 1), (83, .lstore 7, 2), (85, .iload 5, 2), (87, .lload 7, 2), (89, .aload_n 2, 1), (90, .iload 6, 2), (92, .laload, 1), (93, .aload_n 3, 1), (94, .iload 6, 2)], [(96, .laload, 1), (97, .land, 1), (98, .aload 4, 2), (100, .iload 6, 2), (102, .laload, 1), (103, .land, 1), (104, .ldc2_w 47, 3), (107, .lxor, 1), (108, .land, 1), (109, .invokestatic 49, 3), (112, .iadd, 1), (113, .istore 5, 2), (115, .iinc 6 1, 3), (118, .goto (-57), 3), (121, .iload 5, 2), (123, .ireturn, 1)]]
theorem zo_287 : zd_of 287 = some zI_287 := rfl
set_option maxRecDepth 100000 in
theorem zq_287 : zt_m[287]? = some (⟨"ColumnVault$JoinWays", "pairsNotToldByAll", "()I"⟩, prog_7_method_2_code, 9, some (.int), [], 7, 0, 0, 0, 0, 0) := rfl
set_option maxHeartbeats 1000000 in
def f_JoinWays_pairsNotToldByAll_61 : Nat → Nat → Nat → Nat → Int32 → Int32 → zx_H → Option (Int32 × zx_H)
  | 0, _, _, _, _, _, _ => none
  | n + 1, p0, p1, p2, p3, p4, h =>
    if (40 : Int32) ≤ p4 then
      some (p3, h)
    else
      zf_b (zf_ldJ p0 p4 h) fun v1 =>
      zf_b (zf_ldJ p1 p4 h) fun v2 =>
      zf_b (zf_ldJ p2 p4 h) fun v3 =>
      zf_b (zf_ldJ p0 p4 h) fun v4 =>
      zf_b (zf_ldJ p1 p4 h) fun v5 =>
      zf_b (zf_ldJ p2 p4 h) fun v6 =>
      zf_b2 (f_Long_bitCount (((v1 ||| v2) ||| v3) &&& (((v4 &&& v5) &&& v6) ^^^ (-1 : Int64))) h) fun v7 h8 =>
      (f_JoinWays_pairsNotToldByAll_61 n) p0 p1 p2 (p3 + v7) (p4 + (1 : Int32)) h8
set_option maxHeartbeats 4000000 in
set_option maxRecDepth 400000 in
theorem t_f_JoinWays_pairsNotToldByAll_61 {sc : (Nat × (Nat → Int32)) × Bool} {d : Nat} : ∀ (n : Nat) (p0 : Nat) (p1 : Nat) (p2 : Nat) (p3 : Int32) (p4 : Int32) (h : zx_H) (r : Int32) (h' : zx_H), f_JoinWays_pairsNotToldByAll_61 n p0 p1 p2 p3 p4 h = some (r, h') → zx_T sc (d + 4) 287 (61, [(2, .ref p0), (3, .ref p1), (4, .ref p2), (5, .int p3), (6, .int p4)], []) h (zf_oI r) h' := by
  intro n
  induction n with
  | zero => intro p0 p1 p2 p3 p4 h r h' hf; cases hf
  | succ n ih =>
    intro p0 p1 p2 p3 p4 h r h' hf
    unfold f_JoinWays_pairsNotToldByAll_61 at hf
    refine zv_p (k := 2) (f' := (65, [(2, .ref p0), (3, .ref p1), (4, .ref p2), (5, .int p3), (6, .int p4)], [.int (40 : Int32), .int p4])) zq_287 zo_287 (by with_unfolding_all rfl) ?_
    replace hf := zf_ite hf
    obtain ⟨hc, hf⟩ | ⟨hc, hf⟩ := hf
    · refine zv_brT (off := 56) (tt := 121) (r := []) zq_287 zo_287 hc rfl rfl rfl ?_
      refine zv_p (k := 1) (f' := (123, [(2, .ref p0), (3, .ref p1), (4, .ref p2), (5, .int p3), (6, .int p4)], [.int p3])) zq_287 zo_287 (by with_unfolding_all rfl) ?_
      cases hf
      exact zv_rn zq_287 zo_287 rfl rfl
    · refine zv_brF (off := 56) (tt := 121) (r := []) zq_287 zo_287 hc rfl rfl rfl ?_
      refine zv_p (k := 2) (f' := (71, [(2, .ref p0), (3, .ref p1), (4, .ref p2), (5, .int p3), (6, .int p4)], [.int p4, .ref p0])) zq_287 zo_287 (by with_unfolding_all rfl) ?_
      replace hf := zf_be hf
      obtain ⟨v1, hv, hf⟩ := hf
      refine zv_ldJ zq_287 zo_287 rfl hv ?_
      refine zv_p (k := 2) (f' := (75, [(2, .ref p0), (3, .ref p1), (4, .ref p2), (5, .int p3), (6, .int p4)], [.int p4, .ref p1, .long v1])) zq_287 zo_287 (by with_unfolding_all rfl) ?_
      replace hf := zf_be hf
      obtain ⟨v2, hv, hf⟩ := hf
      refine zv_ldJ zq_287 zo_287 rfl hv ?_
      refine zv_p (k := 3) (f' := (81, [(2, .ref p0), (3, .ref p1), (4, .ref p2), (5, .int p3), (6, .int p4)], [.int p4, .ref p2, .long (v1 ||| v2)])) zq_287 zo_287 (by with_unfolding_all rfl) ?_
      replace hf := zf_be hf
      obtain ⟨v3, hv, hf⟩ := hf
      refine zv_ldJ zq_287 zo_287 rfl hv ?_
      refine zv_p (k := 6) (f' := (92, [(7, .long ((v1 ||| v2) ||| v3)), (2, .ref p0), (3, .ref p1), (4, .ref p2), (5, .int p3), (6, .int p4)], [.int p4, .ref p0, .long ((v1 ||| v2) ||| v3), .int p3])) zq_287 zo_287 (by with_unfolding_all rfl) ?_
      replace hf := zf_be hf
      obtain ⟨v4, hv, hf⟩ := hf
      refine zv_ldJ zq_287 zo_287 rfl hv ?_
      refine zv_p (k := 2) (f' := (96, [(7, .long ((v1 ||| v2) ||| v3)), (2, .ref p0), (3, .ref p1), (4, .ref p2), (5, .int p3), (6, .int p4)], [.int p4, .ref p1, .long v4, .long ((v1 ||| v2) ||| v3), .int p3])) zq_287 zo_287 (by with_unfolding_all rfl) ?_
      replace hf := zf_be hf
      obtain ⟨v5, hv, hf⟩ := hf
      refine zv_ldJ zq_287 zo_287 rfl hv ?_
      refine zv_p (k := 3) (f' := (102, [(7, .long ((v1 ||| v2) ||| v3)), (2, .ref p0), (3, .ref p1), (4, .ref p2), (5, .int p3), (6, .int p4)], [.int p4, .ref p2, .long (v4 &&& v5), .long ((v1 ||| v2) ||| v3), .int p3])) zq_287 zo_287 (by with_unfolding_all rfl) ?_
      replace hf := zf_be hf
      obtain ⟨v6, hv, hf⟩ := hf
      refine zv_ldJ zq_287 zo_287 rfl hv ?_
      refine zv_p (k := 1) (f' := (104, [(7, .long ((v1 ||| v2) ||| v3)), (2, .ref p0), (3, .ref p1), (4, .ref p2), (5, .int p3), (6, .int p4)], [.long ((v4 &&& v5) &&& v6), .long ((v1 ||| v2) ||| v3), .int p3])) zq_287 zo_287 (by with_unfolding_all rfl) ?_
      refine zv_lng zq_287 zo_287 rfl rfl ?_
      refine zv_p (k := 2) (f' := (109, [(7, .long ((v1 ||| v2) ||| v3)), (2, .ref p0), (3, .ref p1), (4, .ref p2), (5, .int p3), (6, .int p4)], [.long (((v1 ||| v2) ||| v3) &&& (((v4 &&& v5) &&& v6) ^^^ (-1 : Int64))), .int p3])) zq_287 zo_287 (by with_unfolding_all rfl) ?_
      replace hf := zf_b2e hf
      obtain ⟨v7, h8, hv, hf⟩ := hf
      refine zv_c zq_287 zo_287 rfl rfl rfl rfl rfl rfl (t_f_Long_bitCount _ _ _ _ hv) ?_
      refine zv_p (k := 4) (f' := (61, [(6, .int (p4 + (1 : Int32))), (5, .int (p3 + v7)), (7, .long ((v1 ||| v2) ||| v3)), (2, .ref p0), (3, .ref p1), (4, .ref p2)], [])) zq_287 zo_287 (by with_unfolding_all rfl) ?_
      refine zv_pick (lv' := [(2, .ref p0), (3, .ref p1), (4, .ref p2), (5, .int (p3 + v7)), (6, .int (p4 + (1 : Int32)))]) [2, 3, 4, 5, 6] rfl rfl ?_
      exact ih _ _ _ _ _ _ _ _ hf
set_option maxHeartbeats 1000000 in
def f_JoinWays_pairsNotToldByAll (p0 : Nat) (h : zx_H) : Option (Int32 × zx_H) :=
  zf_b (zf_A 7 2 p0 h) fun v1 =>
  zf_b (zf_I 7 3 p0 h) fun v2 =>
  zf_b (zf_A 7 2 p0 h) fun v3 =>
  zf_b (zf_J 10 5 v3 h) fun v4 =>
  zf_b (zf_is 10 v1 h) fun _ =>
  zf_b2 (f_Sheet_risingRows v1 v2 v4 h) fun v5 h6 =>
  zf_b (zf_A 7 0 p0 h6) fun v7 =>
  zf_b (zf_I 7 1 p0 h6) fun v8 =>
  zf_b (zf_A 7 0 p0 h6) fun v9 =>
  zf_b (zf_J 10 5 v9 h6) fun v10 =>
  zf_b (zf_is 10 v7 h6) fun _ =>
  zf_b2 (f_Sheet_risingRows v7 v8 v10 h6) fun v11 h12 =>
  zf_b (zf_is 7 p0 h12) fun _ =>
  zf_b2 (f_JoinWays_byMerging p0 v11 v5 h12) fun v13 h14 =>
  zf_b (zf_is 7 p0 h14) fun _ =>
  zf_b2 (f_JoinWays_byLookingUp p0 v5 h14) fun v15 h16 =>
  zf_b (zf_is 7 p0 h16) fun _ =>
  zf_b2 (f_JoinWays_byTrying p0 h16) fun v17 h18 =>
  f_JoinWays_pairsNotToldByAll_61 zF v13 v15 v17 (0 : Int32) (0 : Int32) h18
set_option maxHeartbeats 4000000 in
set_option maxRecDepth 400000 in
theorem t_f_JoinWays_pairsNotToldByAll {sc : (Nat × (Nat → Int32)) × Bool} {d : Nat} (p0 : Nat) (h : zx_H) (r : Int32) (h' : zx_H) (hf : f_JoinWays_pairsNotToldByAll p0 h = some (r, h')) : zx_T sc (d + 4) 287 (0, [(0, .ref p0)], []) h (zf_oI r) h' := by
  unfold f_JoinWays_pairsNotToldByAll at hf
  refine zv_p (k := 1) (f' := (1, [(0, .ref p0)], [.ref p0])) zq_287 zo_287 (by with_unfolding_all rfl) ?_
  replace hf := zf_be hf
  obtain ⟨v1, hv, hf⟩ := hf
  refine zv_gf zq_287 zo_287 rfl rfl rfl (zf_Ae hv) ?_
  refine zv_p (k := 1) (f' := (5, [(0, .ref p0)], [.ref p0, .ref v1])) zq_287 zo_287 (by with_unfolding_all rfl) ?_
  replace hf := zf_be hf
  obtain ⟨v2, hv, hf⟩ := hf
  refine zv_gf zq_287 zo_287 rfl rfl rfl (zf_Ie hv) ?_
  refine zv_p (k := 1) (f' := (9, [(0, .ref p0)], [.ref p0, .int v2, .ref v1])) zq_287 zo_287 (by with_unfolding_all rfl) ?_
  replace hf := zf_be hf
  obtain ⟨v3, hv, hf⟩ := hf
  refine zv_gf zq_287 zo_287 rfl rfl rfl (zf_Ae hv) ?_
  replace hf := zf_be hf
  obtain ⟨v4, hv, hf⟩ := hf
  refine zv_gf zq_287 zo_287 rfl rfl rfl (zf_Je hv) ?_
  replace hf := zf_be hf
  obtain ⟨_, ho, hf⟩ := hf
  replace hf := zf_b2e hf
  obtain ⟨v5, h6, hv, hf⟩ := hf
  refine zv_c zq_287 zo_287 rfl rfl rfl rfl rfl (zv_cv rfl rfl rfl (zf_ise ho) rfl) (t_f_Sheet_risingRows _ _ _ _ _ _ hv) ?_
  refine zv_p (k := 3) (f' := (21, [(1, .ref v5), (0, .ref p0)], [.ref p0, .ref p0])) zq_287 zo_287 (by with_unfolding_all rfl) ?_
  replace hf := zf_be hf
  obtain ⟨v7, hv, hf⟩ := hf
  refine zv_gf zq_287 zo_287 rfl rfl rfl (zf_Ae hv) ?_
  refine zv_p (k := 1) (f' := (25, [(1, .ref v5), (0, .ref p0)], [.ref p0, .ref v7, .ref p0])) zq_287 zo_287 (by with_unfolding_all rfl) ?_
  replace hf := zf_be hf
  obtain ⟨v8, hv, hf⟩ := hf
  refine zv_gf zq_287 zo_287 rfl rfl rfl (zf_Ie hv) ?_
  refine zv_p (k := 1) (f' := (29, [(1, .ref v5), (0, .ref p0)], [.ref p0, .int v8, .ref v7, .ref p0])) zq_287 zo_287 (by with_unfolding_all rfl) ?_
  replace hf := zf_be hf
  obtain ⟨v9, hv, hf⟩ := hf
  refine zv_gf zq_287 zo_287 rfl rfl rfl (zf_Ae hv) ?_
  replace hf := zf_be hf
  obtain ⟨v10, hv, hf⟩ := hf
  refine zv_gf zq_287 zo_287 rfl rfl rfl (zf_Je hv) ?_
  replace hf := zf_be hf
  obtain ⟨_, ho, hf⟩ := hf
  replace hf := zf_b2e hf
  obtain ⟨v11, h12, hv, hf⟩ := hf
  refine zv_c zq_287 zo_287 rfl rfl rfl rfl rfl (zv_cv rfl rfl rfl (zf_ise ho) rfl) (t_f_Sheet_risingRows _ _ _ _ _ _ hv) ?_
  refine zv_p (k := 1) (f' := (39, [(1, .ref v5), (0, .ref p0)], [.ref v5, .ref v11, .ref p0])) zq_287 zo_287 (by with_unfolding_all rfl) ?_
  replace hf := zf_be hf
  obtain ⟨_, ho, hf⟩ := hf
  replace hf := zf_b2e hf
  obtain ⟨v13, h14, hv, hf⟩ := hf
  refine zv_c zq_287 zo_287 rfl rfl rfl rfl rfl (zv_cv rfl rfl rfl (zf_ise ho) rfl) (t_f_JoinWays_byMerging _ _ _ _ _ _ hv) ?_
  refine zv_p (k := 3) (f' := (45, [(2, .ref v13), (1, .ref v5), (0, .ref p0)], [.ref v5, .ref p0])) zq_287 zo_287 (by with_unfolding_all rfl) ?_
  replace hf := zf_be hf
  obtain ⟨_, ho, hf⟩ := hf
  replace hf := zf_b2e hf
  obtain ⟨v15, h16, hv, hf⟩ := hf
  refine zv_c zq_287 zo_287 rfl rfl rfl rfl rfl (zv_cv rfl rfl rfl (zf_ise ho) rfl) (t_f_JoinWays_byLookingUp _ _ _ _ _ hv) ?_
  refine zv_p (k := 2) (f' := (50, [(3, .ref v15), (2, .ref v13), (1, .ref v5), (0, .ref p0)], [.ref p0])) zq_287 zo_287 (by with_unfolding_all rfl) ?_
  replace hf := zf_be hf
  obtain ⟨_, ho, hf⟩ := hf
  replace hf := zf_b2e hf
  obtain ⟨v17, h18, hv, hf⟩ := hf
  refine zv_c zq_287 zo_287 rfl rfl rfl rfl rfl (zv_cv rfl rfl rfl (zf_ise ho) rfl) (t_f_JoinWays_byTrying _ _ _ _ hv) ?_
  refine zv_p (k := 5) (f' := (61, [(6, .int (0 : Int32)), (5, .int (0 : Int32)), (4, .ref v17), (3, .ref v15), (2, .ref v13), (1, .ref v5), (0, .ref p0)], [])) zq_287 zo_287 (by with_unfolding_all rfl) ?_
  refine zv_pick (lv' := [(2, .ref v13), (3, .ref v15), (4, .ref v17), (5, .int (0 : Int32)), (6, .int (0 : Int32))]) [2, 3, 4, 5, 6] rfl rfl ?_
  exact t_f_JoinWays_pairsNotToldByAll_61 zF _ _ _ _ _ _ _ _ hf
/-! ColumnVault.joinErrors (IIII)I -/
noncomputable def zI_285 : zd_T := [[(0, .aload_n 0, 1), (1, .iload_n 1, 1), (2, .iload_n 2, 1), (3, .invokevirtual 91, 3), (6, .astore 5, 2), (8, .aload_n 0, 1), (9, .iload_n 3, 1), (10, .iload 4, 2), (12, .invokevirtual 91, 3), (15, .astore 6, 2), (17, .aload 5, 2), (19, .iload_n 2, 1), (20, .invokevirtual 95, 3), (23, .aload 6, 2), (25, .iload 4, 2), (27, .invokevirtual 95, 3), (30, .invokestatic 242, 3)], [(33, .new 261, 3), (36, .dup, 1), (37, .aload 5, 2), (39, .iload_n 2, 1), (40, .aload 6, 2), (42, .iload 4, 2), (44, .invokespecial 263, 3), (47, .invokevirtual 266, 3), (50, .ireturn, 1)]]
theorem zo_285 : zd_of 285 = some zI_285 := rfl
set_option maxRecDepth 100000 in
theorem zq_285 : zt_m[285]? = some (⟨"ColumnVault", "joinErrors", "(IIII)I"⟩, prog_1_method_27_code, 7, some (.int), [], 12, 4, 0, 0, 0, 0) := rfl
