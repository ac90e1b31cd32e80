set_option maxHeartbeats 1000000 in
def f_ColumnVaultLaw_size (p0 : Nat) (h : zx_H) : Option (Int32 × zx_H) :=
  zf_b (zf_len p0 h) fun v1 =>
  f_ColumnVaultLaw_size_10 zF (0 : Int32) p0 v1 (0 : Int32) h
set_option maxHeartbeats 4000000 in
set_option maxRecDepth 400000 in
theorem t_f_ColumnVaultLaw_size {sc : (Nat × (Nat → Int32)) × Bool} {d : Nat} (p0 : Nat) (h : zx_H) (r : Int32) (h' : zx_H) (hf : f_ColumnVaultLaw_size p0 h = some (r, h')) : zx_T sc d 275 (0, [(0, .ref p0)], []) h (zf_oI r) h' := by
  unfold f_ColumnVaultLaw_size at hf
  refine zv_p (k := 5) (f' := (5, [(2, .ref p0), (1, .int (0 : Int32)), (0, .ref p0)], [.ref p0])) zq_275 zo_275 (by with_unfolding_all rfl) ?_
  replace hf := zf_be hf
  obtain ⟨v1, hv, hf⟩ := hf
  refine zv_len zq_275 zo_275 rfl hv ?_
  refine zv_p (k := 3) (f' := (10, [(4, .int (0 : Int32)), (3, .int v1), (2, .ref p0), (1, .int (0 : Int32)), (0, .ref p0)], [])) zq_275 zo_275 (by with_unfolding_all rfl) ?_
  refine zv_pick (lv' := [(1, .int (0 : Int32)), (2, .ref p0), (3, .int v1), (4, .int (0 : Int32))]) [1, 2, 3, 4] rfl rfl ?_
  exact t_f_ColumnVaultLaw_size_10 zF _ _ _ _ _ _ _ hf
/-! ColumnVault.readsOf (LColumnVault$Node;JZI)I -/
noncomputable def zI_277 : zd_T := [[(0, .aload_n 0, 1), (1, .getfield 410, 3), (4, .ifCond .eq 10, 3), (7, .iload 4, 2), (9, .bipush 14, 2), (11, .if_icmp .le 8, 3), (14, .lload_n 1, 1), (15, .invokestatic 137, 3), (18, .ireturn, 1), (19, .iconst 0, 1), (20, .istore 5, 2), (22, .lload_n 1, 1), (23, .lstore 6, 2), (25, .iload_n 3, 1), (26, .ifCond .eq 10, 3), (29, .aload_n 0, 1), (30, .getfield 413, 3)], [(33, .goto 7, 3), (36, .aload_n 0, 1), (37, .getfield 417, 3), (40, .astore 8, 2), (42, .aload 8, 2), (44, .ifnull 72, 3), (47, .iload 5, 2), (49, .aload 8, 2), (51, .lload 6, 2), (53, .iload_n 3, 1), (54, .iload 4, 2), (56, .iconst 1, 1), (57, .iadd, 1), (58, .invokestatic 199, 3), (61, .iadd, 1), (62, .istore 5, 2)], [(64, .lload 6, 2), (66, .aload_n 0, 1), (67, .getfield 410, 3), (70, .iconst 1, 1), (71, .if_icmp .ne 11, 3), (74, .aload 8, 2), (76, .getfield 188, 3), (79, .goto 12, 3), (82, .aload 8, 2), (84, .getfield 188, 3), (87, .ldc2_w 193, 3), (90, .lxor, 1), (91, .land, 1), (92, .lstore 6, 2), (94, .iload_n 3, 1), (95, .ifCond .eq 11, 3)], [(98, .aload 8, 2), (100, .getfield 420, 3), (103, .goto 8, 3), (106, .aload 8, 2), (108, .getfield 423, 3), (111, .astore 8, 2), (113, .goto (-71), 3), (116, .iload 5, 2), (118, .ireturn, 1)]]
theorem zo_277 : zd_of 277 = some zI_277 := rfl
set_option maxRecDepth 100000 in
theorem zq_277 : zt_m[277]? = some (⟨"ColumnVault", "readsOf", "(LColumnVault$Node;JZI)I"⟩, prog_1_method_63_code, 9, some (.int), [], 12, 4, 0, 1, 99999, 0) := rfl
set_option maxHeartbeats 1000000 in
def f_ColumnVault_readsOf_91 (r_277 : Nat → Int64 → Int32 → Int32 → zx_H → Option (Int32 × zx_H)) (k42 : Nat → Int32 → Int32 → Int32 → Int64 → Option Nat → zx_H → Option (Int32 × zx_H)) (p0 : Nat) (p1 : Int32) (p2 : Int32) (p3 : Int32) (p4 : Nat) (p5 : Int64) (p6 : Int64) (h : zx_H) : Option (Int32 × zx_H) :=
  if p1 = 0 then
    zf_b (zf_N 8 4 p4 h) fun v1 =>
    k42 p0 p1 p2 p3 (p5 &&& p6) v1 h
  else
    zf_b (zf_N 8 6 p4 h) fun v2 =>
    k42 p0 p1 p2 p3 (p5 &&& p6) v2 h
set_option maxHeartbeats 4000000 in
set_option maxRecDepth 400000 in
theorem t_f_ColumnVault_readsOf_91 {sc : (Nat × (Nat → Int32)) × Bool} {d : Nat} {r_277 : Nat → Int64 → Int32 → Int32 → zx_H → Option (Int32 × zx_H)} (hr : ∀ (a0 : Nat) (a1 : Int64) (a2 : Int32) (a3 : Int32) (h : zx_H) (r : Int32) (h' : zx_H), r_277 a0 a1 a2 a3 h = some (r, h') → zx_T sc d 277 (0, [(0, .ref a0), (1, .long a1), (3, .int a2), (4, .int a3)], []) h (zf_oI r) h') {k42 : Nat → Int32 → Int32 → Int32 → Int64 → Option Nat → zx_H → Option (Int32 × zx_H)} (hk42 : ∀ (a0 : Nat) (a1 : Int32) (a2 : Int32) (a3 : Int32) (a4 : Int64) (a5 : Option Nat) (h : zx_H) (r : Int32) (h' : zx_H), k42 a0 a1 a2 a3 a4 a5 h = some (r, h') → zx_T sc (d + 1) 277 (42, [(0, .ref a0), (3, .int a1), (4, .int a2), (5, .int a3), (6, .long a4), (8, zx_rf a5)], []) h (zf_oI r) h') (p0 : Nat) (p1 : Int32) (p2 : Int32) (p3 : Int32) (p4 : Nat) (p5 : Int64) (p6 : Int64) (h : zx_H) (r : Int32) (h' : zx_H) (hf : f_ColumnVault_readsOf_91 r_277 k42 p0 p1 p2 p3 p4 p5 p6 h = some (r, h')) : zx_T sc (d + 1) 277 (91, [(0, .ref p0), (3, .int p1), (4, .int p2), (5, .int p3), (8, .ref p4)], [.long p6, .long p5]) h (zf_oI r) h' := by
  unfold f_ColumnVault_readsOf_91 at hf
  refine zv_p (k := 3) (f' := (95, [(6, .long (p5 &&& p6)), (0, .ref p0), (3, .int p1), (4, .int p2), (5, .int p3), (8, .ref p4)], [.int p1])) zq_277 zo_277 (by with_unfolding_all rfl) ?_
  replace hf := zf_ite hf
  obtain ⟨hc, hf⟩ | ⟨hc, hf⟩ := hf
  · refine zv_brT (off := 11) (tt := 106) (r := []) zq_277 zo_277 hc rfl rfl rfl ?_
    refine zv_p (k := 1) (f' := (108, [(6, .long (p5 &&& p6)), (0, .ref p0), (3, .int p1), (4, .int p2), (5, .int p3), (8, .ref p4)], [.ref p4])) zq_277 zo_277 (by with_unfolding_all rfl) ?_
    replace hf := zf_be hf
    obtain ⟨v1, hv, hf⟩ := hf
    refine zv_gf zq_277 zo_277 rfl rfl rfl (zf_Ne hv) ?_
    refine zv_p (k := 2) (f' := (42, [(8, zx_rf v1), (6, .long (p5 &&& p6)), (0, .ref p0), (3, .int p1), (4, .int p2), (5, .int p3)], [])) zq_277 zo_277 (by cases v1 <;> with_unfolding_all rfl) ?_
    refine zv_pick (lv' := [(0, .ref p0), (3, .int p1), (4, .int p2), (5, .int p3), (6, .long (p5 &&& p6)), (8, zx_rf v1)]) [0, 3, 4, 5, 6, 8] (by cases v1 <;> rfl) rfl ?_
    exact hk42 _ _ _ _ _ _ _ _ _ hf
  · refine zv_brF (off := 11) (tt := 106) (r := []) zq_277 zo_277 hc rfl rfl rfl ?_
    refine zv_p (k := 1) (f' := (100, [(6, .long (p5 &&& p6)), (0, .ref p0), (3, .int p1), (4, .int p2), (5, .int p3), (8, .ref p4)], [.ref p4])) zq_277 zo_277 (by with_unfolding_all rfl) ?_
    replace hf := zf_be hf
    obtain ⟨v2, hv, hf⟩ := hf
    refine zv_gf zq_277 zo_277 rfl rfl rfl (zf_Ne hv) ?_
    refine zv_p (k := 3) (f' := (42, [(8, zx_rf v2), (6, .long (p5 &&& p6)), (0, .ref p0), (3, .int p1), (4, .int p2), (5, .int p3)], [])) zq_277 zo_277 (by cases v2 <;> with_unfolding_all rfl) ?_
    refine zv_pick (lv' := [(0, .ref p0), (3, .int p1), (4, .int p2), (5, .int p3), (6, .long (p5 &&& p6)), (8, zx_rf v2)]) [0, 3, 4, 5, 6, 8] (by cases v2 <;> rfl) rfl ?_
    exact hk42 _ _ _ _ _ _ _ _ _ hf
set_option maxHeartbeats 1000000 in
def f_ColumnVault_readsOf_42 (r_277 : Nat → Int64 → Int32 → Int32 → zx_H → Option (Int32 × zx_H)) : Nat → Nat → Int32 → Int32 → Int32 → Int64 → Option Nat → zx_H → Option (Int32 × zx_H)
  | 0, _, _, _, _, _, _, _ => none
  | n + 1, p0, p1, p2, p3, p4, p5, h =>
    zf_on p5 (
      some (p3, h)
    ) fun q1 =>
      zf_b2 (r_277 q1 p4 p1 (p2 + (1 : Int32)) h) fun v2 h3 =>
      zf_b (zf_I 8 0 p0 h3) fun v4 =>
      if ¬ v4 = (1 : Int32) then
        zf_b (zf_J 8 1 q1 h3) fun v5 =>
        f_ColumnVault_readsOf_91 r_277 (f_ColumnVault_readsOf_42 r_277 n) p0 p1 p2 (p3 + v2) q1 p4 (v5 ^^^ (-1 : Int64)) h3
      else
        zf_b (zf_J 8 1 q1 h3) fun v6 =>
        f_ColumnVault_readsOf_91 r_277 (f_ColumnVault_readsOf_42 r_277 n) p0 p1 p2 (p3 + v2) q1 p4 v6 h3
set_option maxHeartbeats 4000000 in
set_option maxRecDepth 400000 in
theorem t_f_ColumnVault_readsOf_42 {sc : (Nat × (Nat → Int32)) × Bool} {d : Nat} {r_277 : Nat → Int64 → Int32 → Int32 → zx_H → Option (Int32 × zx_H)} (hr : ∀ (a0 : Nat) (a1 : Int64) (a2 : Int32) (a3 : Int32) (h : zx_H) (r : Int32) (h' : zx_H), r_277 a0 a1 a2 a3 h = some (r, h') → zx_T sc d 277 (0, [(0, .ref a0), (1, .long a1), (3, .int a2), (4, .int a3)], []) h (zf_oI r) h') : ∀ (n : Nat) (p0 : Nat) (p1 : Int32) (p2 : Int32) (p3 : Int32) (p4 : Int64) (p5 : Option Nat) (h : zx_H) (r : Int32) (h' : zx_H), f_ColumnVault_readsOf_42 r_277 n p0 p1 p2 p3 p4 p5 h = some (r, h') → zx_T sc (d + 1) 277 (42, [(0, .ref p0), (3, .int p1), (4, .int p2), (5, .int p3), (6, .long p4), (8, zx_rf p5)], []) h (zf_oI r) h' := by
  intro n
  induction n with
  | zero => intro p0 p1 p2 p3 p4 p5 h r h' hf; cases hf
  | succ n ih =>
    intro p0 p1 p2 p3 p4 p5 h r h' hf
    unfold f_ColumnVault_readsOf_42 at hf
    refine zv_p (k := 1) (f' := (44, [(0, .ref p0), (3, .int p1), (4, .int p2), (5, .int p3), (6, .long p4), (8, zx_rf p5)], [zx_rf p5])) zq_277 zo_277 (by cases p5 <;> with_unfolding_all rfl) ?_
    replace hf := zf_elim hf
    obtain ⟨rfl, hf⟩ | ⟨q1, rfl, hf⟩ := hf
    · refine zv_p (k := 1) (f' := (116, [(0, .ref p0), (3, .int p1), (4, .int p2), (5, .int p3), (6, .long p4), (8, .null)], [])) zq_277 zo_277 (by with_unfolding_all rfl) ?_
      refine zv_p (k := 1) (f' := (118, [(0, .ref p0), (3, .int p1), (4, .int p2), (5, .int p3), (6, .long p4), (8, .null)], [.int p3])) zq_277 zo_277 (by with_unfolding_all rfl) ?_
      cases hf
      exact zv_rn zq_277 zo_277 rfl rfl
    · refine zv_p (k := 1) (f' := (47, [(0, .ref p0), (3, .int p1), (4, .int p2), (5, .int p3), (6, .long p4), (8, .ref q1)], [])) zq_277 zo_277 (by with_unfolding_all rfl) ?_
      refine zv_p (k := 7) (f' := (58, [(0, .ref p0), (3, .int p1), (4, .int p2), (5, .int p3), (6, .long p4), (8, .ref q1)], [.int (p2 + (1 : Int32)), .int p1, .long p4, .ref q1, .int p3])) zq_277 zo_277 (by with_unfolding_all rfl) ?_
      replace hf := zf_b2e hf
      obtain ⟨v2, h3, hv, hf⟩ := hf
      refine zv_c zq_277 zo_277 rfl rfl rfl rfl rfl rfl (zv_dp 0 <| hr _ _ _ _ _ _ _ hv) ?_
      refine zv_p (k := 4) (f' := (67, [(5, .int (p3 + v2)), (0, .ref p0), (3, .int p1), (4, .int p2), (6, .long p4), (8, .ref q1)], [.ref p0, .long p4])) zq_277 zo_277 (by with_unfolding_all rfl) ?_
      replace hf := zf_be hf
      obtain ⟨v4, hv, hf⟩ := hf
      refine zv_gf zq_277 zo_277 rfl rfl rfl (zf_Ie hv) ?_
      refine zv_p (k := 1) (f' := (71, [(5, .int (p3 + v2)), (0, .ref p0), (3, .int p1), (4, .int p2), (6, .long p4), (8, .ref q1)], [.int (1 : Int32), .int v4, .long p4])) zq_277 zo_277 (by with_unfolding_all rfl) ?_
      replace hf := zf_ite hf
      obtain ⟨hc, hf⟩ | ⟨hc, hf⟩ := hf
      · refine zv_brT (off := 11) (tt := 82) (r := [.long p4]) zq_277 zo_277 hc rfl rfl rfl ?_
        refine zv_p (k := 1) (f' := (84, [(5, .int (p3 + v2)), (0, .ref p0), (3, .int p1), (4, .int p2), (6, .long p4), (8, .ref q1)], [.ref q1, .long p4])) zq_277 zo_277 (by with_unfolding_all rfl) ?_
        replace hf := zf_be hf
        obtain ⟨v5, hv, hf⟩ := hf
        refine zv_gf zq_277 zo_277 rfl rfl rfl (zf_Je hv) ?_
        refine zv_lng zq_277 zo_277 rfl rfl ?_
        refine zv_p (k := 1) (f' := (91, [(5, .int (p3 + v2)), (0, .ref p0), (3, .int p1), (4, .int p2), (6, .long p4), (8, .ref q1)], [.long (v5 ^^^ (-1 : Int64)), .long p4])) zq_277 zo_277 (by with_unfolding_all rfl) ?_
        refine zv_pick (lv' := [(0, .ref p0), (3, .int p1), (4, .int p2), (5, .int (p3 + v2)), (8, .ref q1)]) [0, 3, 4, 5, 8] rfl rfl ?_
        exact t_f_ColumnVault_readsOf_91 hr ih _ _ _ _ _ _ _ _ _ _ hf
      · refine zv_brF (off := 11) (tt := 82) (r := [.long p4]) zq_277 zo_277 hc rfl rfl rfl ?_
        refine zv_p (k := 1) (f' := (76, [(5, .int (p3 + v2)), (0, .ref p0), (3, .int p1), (4, .int p2), (6, .long p4), (8, .ref q1)], [.ref q1, .long p4])) zq_277 zo_277 (by with_unfolding_all rfl) ?_
        replace hf := zf_be hf
        obtain ⟨v6, hv, hf⟩ := hf
        refine zv_gf zq_277 zo_277 rfl rfl rfl (zf_Je hv) ?_
        refine zv_p (k := 1) (f' := (91, [(5, .int (p3 + v2)), (0, .ref p0), (3, .int p1), (4, .int p2), (6, .long p4), (8, .ref q1)], [.long v6, .long p4])) zq_277 zo_277 (by with_unfolding_all rfl) ?_
        refine zv_pick (lv' := [(0, .ref p0), (3, .int p1), (4, .int p2), (5, .int (p3 + v2)), (8, .ref q1)]) [0, 3, 4, 5, 8] rfl rfl ?_
        exact t_f_ColumnVault_readsOf_91 hr ih _ _ _ _ _ _ _ _ _ _ hf
set_option maxHeartbeats 1000000 in
def f_ColumnVault_readsOfb (r_277 : Nat → Int64 → Int32 → Int32 → zx_H → Option (Int32 × zx_H)) (p0 : Nat) (p1 : Int64) (p2 : Int32) (p3 : Int32) (h : zx_H) : Option (Int32 × zx_H) :=
  zf_b (zf_I 8 0 p0 h) fun v1 =>
  if v1 = 0 then
    zf_b2 (f_Long_bitCount p1 h) fun v2 h3 =>
    some (v2, h3)
  else
    if p3 ≤ (14 : Int32) then
      if p2 = 0 then
        zf_b (zf_N 8 2 p0 h) fun v4 =>
        f_ColumnVault_readsOf_42 r_277 zF p0 p2 p3 (0 : Int32) p1 v4 h
      else
        zf_b (zf_N 8 5 p0 h) fun v5 =>
        f_ColumnVault_readsOf_42 r_277 zF p0 p2 p3 (0 : Int32) p1 v5 h
    else
      zf_b2 (f_Long_bitCount p1 h) fun v6 h7 =>
      some (v6, h7)
set_option maxHeartbeats 4000000 in
set_option maxRecDepth 400000 in
theorem t_f_ColumnVault_readsOfb {sc : (Nat × (Nat → Int32)) × Bool} {d : Nat} {r_277 : Nat → Int64 → Int32 → Int32 → zx_H → Option (Int32 × zx_H)} (hr : ∀ (a0 : Nat) (a1 : Int64) (a2 : Int32) (a3 : Int32) (h : zx_H) (r : Int32) (h' : zx_H), r_277 a0 a1 a2 a3 h = some (r, h') → zx_T sc d 277 (0, [(0, .ref a0), (1, .long a1), (3, .int a2), (4, .int a3)], []) h (zf_oI r) h') (p0 : Nat) (p1 : Int64) (p2 : Int32) (p3 : Int32) (h : zx_H) (r : Int32) (h' : zx_H) (hf : f_ColumnVault_readsOfb r_277 p0 p1 p2 p3 h = some (r, h')) : zx_T sc (d + 1) 277 (0, [(0, .ref p0), (1, .long p1), (3, .int p2), (4, .int p3)], []) h (zf_oI r) h' := by
  unfold f_ColumnVault_readsOfb at hf
  refine zv_p (k := 1) (f' := (1, [(0, .ref p0), (1, .long p1), (3, .int p2), (4, .int p3)], [.ref p0])) zq_277 zo_277 (by with_unfolding_all rfl) ?_
  replace hf := zf_be hf
  obtain ⟨v1, hv, hf⟩ := hf
  refine zv_gf zq_277 zo_277 rfl rfl rfl (zf_Ie hv) ?_
  replace hf := zf_ite hf
  obtain ⟨hc, hf⟩ | ⟨hc, hf⟩ := hf
  · refine zv_brT (off := 10) (tt := 14) (r := []) zq_277 zo_277 hc rfl rfl rfl ?_
    refine zv_p (k := 1) (f' := (15, [(0, .ref p0), (1, .long p1), (3, .int p2), (4, .int p3)], [.long p1])) zq_277 zo_277 (by with_unfolding_all rfl) ?_
    replace hf := zf_b2e hf
    obtain ⟨v2, h3, hv, hf⟩ := hf
    refine zv_c zq_277 zo_277 rfl rfl rfl rfl rfl rfl (t_f_Long_bitCount _ _ _ _ hv) ?_
    cases hf
    exact zv_rn zq_277 zo_277 rfl rfl
  · refine zv_brF (off := 10) (tt := 14) (r := []) zq_277 zo_277 hc rfl rfl rfl ?_
    refine zv_p (k := 2) (f' := (11, [(0, .ref p0), (1, .long p1), (3, .int p2), (4, .int p3)], [.int (14 : Int32), .int p3])) zq_277 zo_277 (by with_unfolding_all rfl) ?_
    replace hf := zf_ite hf
    obtain ⟨hc, hf⟩ | ⟨hc, hf⟩ := hf
    · refine zv_brT (off := 8) (tt := 19) (r := []) zq_277 zo_277 hc rfl rfl rfl ?_
      refine zv_p (k := 5) (f' := (26, [(6, .long p1), (5, .int (0 : Int32)), (0, .ref p0), (1, .long p1), (3, .int p2), (4, .int p3)], [.int p2])) zq_277 zo_277 (by with_unfolding_all rfl) ?_
      replace hf := zf_ite hf
      obtain ⟨hc, hf⟩ | ⟨hc, hf⟩ := hf
      · refine zv_brT (off := 10) (tt := 36) (r := []) zq_277 zo_277 hc rfl rfl rfl ?_
        refine zv_p (k := 1) (f' := (37, [(6, .long p1), (5, .int (0 : Int32)), (0, .ref p0), (1, .long p1), (3, .int p2), (4, .int p3)], [.ref p0])) zq_277 zo_277 (by with_unfolding_all rfl) ?_
        replace hf := zf_be hf
        obtain ⟨v4, hv, hf⟩ := hf
        refine zv_gf zq_277 zo_277 rfl rfl rfl (zf_Ne hv) ?_
        refine zv_p (k := 1) (f' := (42, [(8, zx_rf v4), (6, .long p1), (5, .int (0 : Int32)), (0, .ref p0), (1, .long p1), (3, .int p2), (4, .int p3)], [])) zq_277 zo_277 (by cases v4 <;> with_unfolding_all rfl) ?_
        refine zv_pick (lv' := [(0, .ref p0), (3, .int p2), (4, .int p3), (5, .int (0 : Int32)), (6, .long p1), (8, zx_rf v4)]) [0, 3, 4, 5, 6, 8] (by cases v4 <;> rfl) rfl ?_
        exact t_f_ColumnVault_readsOf_42 hr zF _ _ _ _ _ _ _ _ _ hf
      · refine zv_brF (off := 10) (tt := 36) (r := []) zq_277 zo_277 hc rfl rfl rfl ?_
        refine zv_p (k := 1) (f' := (30, [(6, .long p1), (5, .int (0 : Int32)), (0, .ref p0), (1, .long p1), (3, .int p2), (4, .int p3)], [.ref p0])) zq_277 zo_277 (by with_unfolding_all rfl) ?_
        replace hf := zf_be hf
        obtain ⟨v5, hv, hf⟩ := hf
        refine zv_gf zq_277 zo_277 rfl rfl rfl (zf_Ne hv) ?_
        refine zv_p (k := 2) (f' := (42, [(8, zx_rf v5), (6, .long p1), (5, .int (0 : Int32)), (0, .ref p0), (1, .long p1), (3, .int p2), (4, .int p3)], [])) zq_277 zo_277 (by cases v5 <;> with_unfolding_all rfl) ?_
        refine zv_pick (lv' := [(0, .ref p0), (3, .int p2), (4, .int p3), (5, .int (0 : Int32)), (6, .long p1), (8, zx_rf v5)]) [0, 3, 4, 5, 6, 8] (by cases v5 <;> rfl) rfl ?_
        exact t_f_ColumnVault_readsOf_42 hr zF _ _ _ _ _ _ _ _ _ hf
    · refine zv_brF (off := 8) (tt := 19) (r := []) zq_277 zo_277 hc rfl rfl rfl ?_
      refine zv_p (k := 1) (f' := (15, [(0, .ref p0), (1, .long p1), (3, .int p2), (4, .int p3)], [.long p1])) zq_277 zo_277 (by with_unfolding_all rfl) ?_
      replace hf := zf_b2e hf
      obtain ⟨v6, h7, hv, hf⟩ := hf
      refine zv_c zq_277 zo_277 rfl rfl rfl rfl rfl rfl (t_f_Long_bitCount _ _ _ _ hv) ?_
      cases hf
      exact zv_rn zq_277 zo_277 rfl rfl
set_option maxHeartbeats 1000000 in
def f_ColumnVault_readsOf : Nat → Nat → Int64 → Int32 → Int32 → zx_H → Option (Int32 × zx_H)
  | 0, _, _, _, _, _ => none
  | n + 1, p0, p1, p2, p3, h => f_ColumnVault_readsOfb (f_ColumnVault_readsOf n) p0 p1 p2 p3 h
set_option maxHeartbeats 4000000 in
set_option maxRecDepth 400000 in
theorem t_f_ColumnVault_readsOf {sc : (Nat × (Nat → Int32)) × Bool} {d : Nat} : ∀ (n : Nat) (p0 : Nat) (p1 : Int64) (p2 : Int32) (p3 : Int32) (h : zx_H) (r : Int32) (h' : zx_H), f_ColumnVault_readsOf n p0 p1 p2 p3 h = some (r, h') → zx_T sc (d + 1 * n) 277 (0, [(0, .ref p0), (1, .long p1), (3, .int p2), (4, .int p3)], []) h (zf_oI r) h' := by
  intro n
  induction n with
  | zero => intro p0 p1 p2 p3 h r h' hf; cases hf
  | succ n ih =>
    intro p0 p1 p2 p3 h r h' hf
    unfold f_ColumnVault_readsOf at hf
    rw [show d + 1 * (n + 1) = (d + 1 * n) + 1 by omega]
    exact t_f_ColumnVault_readsOfb ih p0 p1 p2 p3 h r h' hf
theorem tc_f_ColumnVault_readsOf {sc : (Nat × (Nat → Int32)) × Bool} {d : Nat} (p0 : Nat) (p1 : Int64) (p2 : Int32) (p3 : Int32) (h : zx_H) (r : Int32) (h' : zx_H) (hf : f_ColumnVault_readsOf 20 p0 p1 p2 p3 h = some (r, h')) : zx_T sc (d + 20) 277 (0, [(0, .ref p0), (1, .long p1), (3, .int p2), (4, .int p3)], []) h (zf_oI r) h' := t_f_ColumnVault_readsOf 20 p0 p1 p2 p3 h r h' hf
/-! ColumnVault.reads (IZ)I -/
noncomputable def zI_276 : zd_T := [[(0, .aload_n 0, 1), (1, .iload_n 1, 1), (2, .invokevirtual 184, 3), (5, .aload_n 0, 1), (6, .iload_n 1, 1), (7, .invokevirtual 53, 3), (10, .invokevirtual 195, 3), (13, .iload_n 2, 1), (14, .iconst 0, 1), (15, .invokestatic 199, 3), (18, .ireturn, 1)]]
theorem zo_276 : zd_of 276 = some zI_276 := rfl
set_option maxRecDepth 100000 in
theorem zq_276 : zt_m[276]? = some (⟨"ColumnVault", "reads", "(IZ)I"⟩, prog_1_method_19_code, 3, some (.int), [], 12, 2, 0, 0, 0, 0) := rfl
set_option maxHeartbeats 1000000 in
def f_ColumnVault_reads (p0 : Nat) (p1 : Int32) (p2 : Int32) (h : zx_H) : Option ((Int32 ⊕ Nat) × zx_H) :=
  zf_b (zf_is 12 p0 h) fun _ =>
  zf_b3 (f_ColumnVault_filterOf p0 p1 h) fun v1 h2 =>
  zf_b (zf_is 12 p0 h2) fun _ =>
  zf_b3 (f_ColumnVault_sheetOf p0 p1 h2) fun v4 h5 =>
  zf_b (zf_is 10 v4 h5) fun _ =>
  zf_b2 (f_Sheet_allRows v4 h5) fun v7 h8 =>
  zf_b2 (f_ColumnVault_readsOf 20 v1 v7 p2 (0 : Int32) h8) fun v9 h10 =>
  some (.inl v9, h10)
set_option maxHeartbeats 4000000 in
set_option maxRecDepth 400000 in
theorem t_f_ColumnVault_reads {sc : (Nat × (Nat → Int32)) × Bool} {d : Nat} (p0 : Nat) (p1 : Int32) (p2 : Int32) (h : zx_H) (r : (Int32 ⊕ Nat)) (h' : zx_H) (hf : f_ColumnVault_reads p0 p1 p2 h = some (r, h')) : zx_T sc (d + 123) 276 (0, [(0, .ref p0), (1, .int p1), (2, .int p2)], []) h (zf_oIx r) h' := by
  unfold f_ColumnVault_reads at hf
  refine zv_p (k := 2) (f' := (2, [(0, .ref p0), (1, .int p1), (2, .int p2)], [.int p1, .ref p0])) zq_276 zo_276 (by with_unfolding_all rfl) ?_
  replace hf := zf_be hf
  obtain ⟨_, ho, hf⟩ := hf
  replace hf := zf_b3e hf
  obtain ⟨v1, h2, hv, hf⟩ | ⟨E3, h2, hv, hf⟩ := hf
  rotate_left
  · cases hf; exact zv_cx zq_276 zo_276 rfl rfl rfl rfl rfl (zv_cv rfl rfl rfl (zf_ise ho) rfl) (t_f_ColumnVault_filterOf _ _ _ _ _ hv) rfl
  refine zv_c zq_276 zo_276 rfl rfl rfl rfl rfl (zv_cv rfl rfl rfl (zf_ise ho) rfl) (t_f_ColumnVault_filterOf _ _ _ _ _ hv) ?_
  refine zv_p (k := 2) (f' := (7, [(0, .ref p0), (1, .int p1), (2, .int p2)], [.int p1, .ref p0, .ref v1])) zq_276 zo_276 (by with_unfolding_all rfl) ?_
  replace hf := zf_be hf
  obtain ⟨_, ho, hf⟩ := hf
  replace hf := zf_b3e hf
  obtain ⟨v4, h5, hv, hf⟩ | ⟨E6, h5, hv, hf⟩ := hf
  rotate_left
  · cases hf; exact zv_cx zq_276 zo_276 rfl rfl rfl rfl rfl (zv_cv rfl rfl rfl (zf_ise ho) rfl) (t_f_ColumnVault_sheetOf _ _ _ _ _ hv) rfl
  refine zv_c zq_276 zo_276 rfl rfl rfl rfl rfl (zv_cv rfl rfl rfl (zf_ise ho) rfl) (t_f_ColumnVault_sheetOf _ _ _ _ _ hv) ?_
  replace hf := zf_be hf
  obtain ⟨_, ho, hf⟩ := hf
  replace hf := zf_b2e hf
  obtain ⟨v7, h8, hv, hf⟩ := hf
  refine zv_c zq_276 zo_276 rfl rfl rfl rfl rfl (zv_cv rfl rfl rfl (zf_ise ho) rfl) (t_f_Sheet_allRows _ _ _ _ hv) ?_
  refine zv_p (k := 2) (f' := (15, [(0, .ref p0), (1, .int p1), (2, .int p2)], [.int (0 : Int32), .int p2, .long v7, .ref v1])) zq_276 zo_276 (by with_unfolding_all rfl) ?_
  replace hf := zf_b2e hf
  obtain ⟨v9, h10, hv, hf⟩ := hf
  refine zv_c zq_276 zo_276 rfl rfl rfl rfl rfl rfl (tc_f_ColumnVault_readsOf _ _ _ _ _ _ _ hv) ?_
  cases hf
  exact zv_rn zq_276 zo_276 rfl rfl
/-! ColumnVaultLaw.same (arr Zarr Z)Z -/
noncomputable def zI_278 : zd_T := [[(0, .aload_n 0, 1), (1, .arraylength, 1), (2, .aload_n 1, 1), (3, .arraylength, 1), (4, .if_icmp .ne 7, 3), (7, .iconst 1, 1), (8, .goto 4, 3), (11, .iconst 0, 1), (12, .istore_n 2, 1), (13, .iconst 0, 1), (14, .istore_n 3, 1), (15, .iload_n 3, 1), (16, .aload_n 0, 1), (17, .arraylength, 1), (18, .if_icmp .ge 28, 3), (21, .iload_n 2, 1), (22, .ifCond .eq 24, 3), (25, .aload_n 0, 1), (26, .iload_n 3, 1), (27, .baload, 1), (28, .aload_n 1, 1), (29, .iload_n 3, 1), (30, .baload, 1), (31, .if_icmp .ne 7, 3)], [(34, .iconst 1, 1), (35, .goto 4, 3), (38, .iconst 0, 1), (39, .istore_n 2, 1), (40, .iinc 3 1, 3), (43, .goto (-28), 3), (46, .iload_n 2, 1), (47, .ireturn, 1)]]
theorem zo_278 : zd_of 278 = some zI_278 := rfl
set_option maxRecDepth 100000 in
theorem zq_278 : zt_m[278]? = some (⟨"ColumnVaultLaw", "same", "([Z[Z)Z"⟩, method_22_code, 4, some (.boolean), [], 17, 2, 0, 1, 99999, 0) := rfl
set_option maxHeartbeats 1000000 in
def f_ColumnVaultLaw_same_15 : Nat → Nat → Nat → Int32 → Int32 → zx_H → Option (Int32 × zx_H)
  | 0, _, _, _, _, _ => none
  | n + 1, p0, p1, p2, p3, h =>
    zf_b (zf_len p0 h) fun v1 =>
    if v1 ≤ p3 then
      if narrow .boolean (.int p2) = .int p2 then some (p2, h) else none
    else
      if p2 = 0 then
        if narrow .boolean (.int p2) = .int p2 then some (p2, h) else none
      else
        zf_b (zf_ldB p0 p3 h) fun v2 =>
        zf_b (zf_ldB p1 p3 h) fun v3 =>
        if ¬ v2 = v3 then
          (f_ColumnVaultLaw_same_15 n) p0 p1 (0 : Int32) (p3 + (1 : Int32)) h
        else
          (f_ColumnVaultLaw_same_15 n) p0 p1 (1 : Int32) (p3 + (1 : Int32)) h
set_option maxHeartbeats 4000000 in
set_option maxRecDepth 400000 in
theorem t_f_ColumnVaultLaw_same_15 {sc : (Nat × (Nat → Int32)) × Bool} {d : Nat} : ∀ (n : Nat) (p0 : Nat) (p1 : Nat) (p2 : Int32) (p3 : Int32) (h : zx_H) (r : Int32) (h' : zx_H), f_ColumnVaultLaw_same_15 n p0 p1 p2 p3 h = some (r, h') → zx_T sc d 278 (15, [(0, .ref p0), (1, .ref p1), (2, .int p2), (3, .int p3)], []) h (zf_oI r) h' := by
  intro n
  induction n with
  | zero => intro p0 p1 p2 p3 h r h' hf; cases hf
  | succ n ih =>
    intro p0 p1 p2 p3 h r h' hf
    unfold f_ColumnVaultLaw_same_15 at hf
    refine zv_p (k := 2) (f' := (17, [(0, .ref p0), (1, .ref p1), (2, .int p2), (3, .int p3)], [.ref p0, .int p3])) zq_278 zo_278 (by with_unfolding_all rfl) ?_
    replace hf := zf_be hf
    obtain ⟨v1, hv, hf⟩ := hf
    refine zv_len zq_278 zo_278 rfl hv ?_
    replace hf := zf_ite hf
    obtain ⟨hc, hf⟩ | ⟨hc, hf⟩ := hf
    · refine zv_brT (off := 28) (tt := 46) (r := []) zq_278 zo_278 hc rfl rfl rfl ?_
      refine zv_p (k := 1) (f' := (47, [(0, .ref p0), (1, .ref p1), (2, .int p2), (3, .int p3)], [.int p2])) zq_278 zo_278 (by with_unfolding_all rfl) ?_
      replace hf := zf_ite hf
      obtain ⟨hc, hf⟩ | ⟨hc, hf⟩ := hf
      · cases hf; exact zv_rn zq_278 zo_278 rfl hc
      · cases hf
    · refine zv_brF (off := 28) (tt := 46) (r := []) zq_278 zo_278 hc rfl rfl rfl ?_
      refine zv_p (k := 1) (f' := (22, [(0, .ref p0), (1, .ref p1), (2, .int p2), (3, .int p3)], [.int p2])) zq_278 zo_278 (by with_unfolding_all rfl) ?_
      replace hf := zf_ite hf
      obtain ⟨hc, hf⟩ | ⟨hc, hf⟩ := hf
      · refine zv_brT (off := 24) (tt := 46) (r := []) zq_278 zo_278 hc rfl rfl rfl ?_
        refine zv_p (k := 1) (f' := (47, [(0, .ref p0), (1, .ref p1), (2, .int p2), (3, .int p3)], [.int p2])) zq_278 zo_278 (by with_unfolding_all rfl) ?_
        replace hf := zf_ite hf
        obtain ⟨hc, hf⟩ | ⟨hc, hf⟩ := hf
        · cases hf; exact zv_rn zq_278 zo_278 rfl hc
        · cases hf
      · refine zv_brF (off := 24) (tt := 46) (r := []) zq_278 zo_278 hc rfl rfl rfl ?_
        refine zv_p (k := 2) (f' := (27, [(0, .ref p0), (1, .ref p1), (2, .int p2), (3, .int p3)], [.int p3, .ref p0])) zq_278 zo_278 (by with_unfolding_all rfl) ?_
        replace hf := zf_be hf
        obtain ⟨v2, hv, hf⟩ := hf
        refine zv_ldB zq_278 zo_278 rfl hv ?_
        refine zv_p (k := 2) (f' := (30, [(0, .ref p0), (1, .ref p1), (2, .int p2), (3, .int p3)], [.int p3, .ref p1, .int v2])) zq_278 zo_278 (by with_unfolding_all rfl) ?_
        replace hf := zf_be hf
        obtain ⟨v3, hv, hf⟩ := hf
        refine zv_ldB zq_278 zo_278 rfl hv ?_
        replace hf := zf_ite hf
        obtain ⟨hc, hf⟩ | ⟨hc, hf⟩ := hf
        · refine zv_brT (off := 7) (tt := 38) (r := []) zq_278 zo_278 hc rfl rfl rfl ?_
          refine zv_p (k := 4) (f' := (15, [(3, .int (p3 + (1 : Int32))), (2, .int (0 : Int32)), (0, .ref p0), (1, .ref p1)], [])) zq_278 zo_278 (by with_unfolding_all rfl) ?_
          refine zv_pick (lv' := [(0, .ref p0), (1, .ref p1), (2, .int (0 : Int32)), (3, .int (p3 + (1 : Int32)))]) [0, 1, 2, 3] rfl rfl ?_
          exact ih _ _ _ _ _ _ _ hf
        · refine zv_brF (off := 7) (tt := 38) (r := []) zq_278 zo_278 hc rfl rfl rfl ?_
          refine zv_p (k := 5) (f' := (15, [(3, .int (p3 + (1 : Int32))), (2, .int (1 : Int32)), (0, .ref p0), (1, .ref p1)], [])) zq_278 zo_278 (by with_unfolding_all rfl) ?_
          refine zv_pick (lv' := [(0, .ref p0), (1, .ref p1), (2, .int (1 : Int32)), (3, .int (p3 + (1 : Int32)))]) [0, 1, 2, 3] rfl rfl ?_
          exact ih _ _ _ _ _ _ _ hf
set_option maxHeartbeats 1000000 in
def f_ColumnVaultLaw_same (p0 : Nat) (p1 : Nat) (h : zx_H) : Option (Int32 × zx_H) :=
  zf_b (zf_len p0 h) fun v1 =>
  zf_b (zf_len p1 h) fun v2 =>
  if ¬ v1 = v2 then
    f_ColumnVaultLaw_same_15 zF p0 p1 (0 : Int32) (0 : Int32) h
  else
    f_ColumnVaultLaw_same_15 zF p0 p1 (1 : Int32) (0 : Int32) h
set_option maxHeartbeats 4000000 in
set_option maxRecDepth 400000 in
theorem t_f_ColumnVaultLaw_same {sc : (Nat × (Nat → Int32)) × Bool} {d : Nat} (p0 : Nat) (p1 : Nat) (h : zx_H) (r : Int32) (h' : zx_H) (hf : f_ColumnVaultLaw_same p0 p1 h = some (r, h')) : zx_T sc d 278 (0, [(0, .ref p0), (1, .ref p1)], []) h (zf_oI r) h' := by
  unfold f_ColumnVaultLaw_same at hf
  refine zv_p (k := 1) (f' := (1, [(0, .ref p0), (1, .ref p1)], [.ref p0])) zq_278 zo_278 (by with_unfolding_all rfl) ?_
  replace hf := zf_be hf
  obtain ⟨v1, hv, hf⟩ := hf
  refine zv_len zq_278 zo_278 rfl hv ?_
  refine zv_p (k := 1) (f' := (3, [(0, .ref p0), (1, .ref p1)], [.ref p1, .int v1])) zq_278 zo_278 (by with_unfolding_all rfl) ?_
  replace hf := zf_be hf
  obtain ⟨v2, hv, hf⟩ := hf
  refine zv_len zq_278 zo_278 rfl hv ?_
  replace hf := zf_ite hf
  obtain ⟨hc, hf⟩ | ⟨hc, hf⟩ := hf
  · refine zv_brT (off := 7) (tt := 11) (r := []) zq_278 zo_278 hc rfl rfl rfl ?_
    refine zv_p (k := 4) (f' := (15, [(3, .int (0 : Int32)), (2, .int (0 : Int32)), (0, .ref p0), (1, .ref p1)], [])) zq_278 zo_278 (by with_unfolding_all rfl) ?_
    refine zv_pick (lv' := [(0, .ref p0), (1, .ref p1), (2, .int (0 : Int32)), (3, .int (0 : Int32))]) [0, 1, 2, 3] rfl rfl ?_
    exact t_f_ColumnVaultLaw_same_15 zF _ _ _ _ _ _ _ hf
  · refine zv_brF (off := 7) (tt := 11) (r := []) zq_278 zo_278 hc rfl rfl rfl ?_
    refine zv_p (k := 5) (f' := (15, [(3, .int (0 : Int32)), (2, .int (1 : Int32)), (0, .ref p0), (1, .ref p1)], [])) zq_278 zo_278 (by with_unfolding_all rfl) ?_
    refine zv_pick (lv' := [(0, .ref p0), (1, .ref p1), (2, .int (1 : Int32)), (3, .int (0 : Int32))]) [0, 1, 2, 3] rfl rfl ?_
    exact t_f_ColumnVaultLaw_same_15 zF _ _ _ _ _ _ _ hf
/-! String.toString ()Ljava/lang/String; -/
noncomputable def zI_281 : zd_T := [[(0, .aload_n 0, 1), (1, .areturn, 1)]]
theorem zo_281 : zd_of 281 = some zI_281 := rfl
set_option maxRecDepth 100000 in
theorem zq_281 : zt_m[281]? = some (⟨"java/lang/String", "toString", "()Ljava/lang/String;"⟩, prog_31_method_126_code, 1, some (.object "java/lang/String"), [], 0, 0, 0, 0, 99999, 0) := rfl
set_option maxHeartbeats 1000000 in
def f_String_toString (p0 : Nat) (h : zx_H) : Option (Nat × zx_H) :=
  some (p0, h)
set_option maxHeartbeats 4000000 in
set_option maxRecDepth 400000 in
theorem t_f_String_toString {sc : (Nat × (Nat → Int32)) × Bool} {d : Nat} (p0 : Nat) (h : zx_H) (r : Nat) (h' : zx_H) (hf : f_String_toString p0 h = some (r, h')) : zx_T sc d 281 (0, [(0, .ref p0)], []) h (zf_oA r) h' := by
  unfold f_String_toString at hf
  refine zv_p (k := 1) (f' := (1, [(0, .ref p0)], [.ref p0])) zq_281 zo_281 (by with_unfolding_all rfl) ?_
  cases hf
  exact zv_r zq_281 zo_281 rfl rfl rfl rfl rfl
def fv_6 (p0 : Nat) (h : zx_H) : Option (Nat × zx_H) := zf_kd p0 h fun ci =>
  if ci = 0 then f_String_toString p0 h
  else if ci = 1 then f_StringBuilder_toString p0 h
  else none
theorem tv_6 {sc : (Nat × (Nat → Int32)) × Bool} {d : Nat} {p0 : Nat} {h : zx_H} {r : Nat} {h' : zx_H} (hv : fv_6 p0 h = some (r, h')) : ∃ mj, (∀ (oc i y w : Nat) (st rest : List Value), zx_pool oc i = some (12, 6, y, w) → st.drop 0 = .ref p0 :: rest → (st.take 0).reverse = [] → Nat.ble (zx_cs rest) 8 = true → zx_c oc st h (.invokevirtual i) 3 = some (mj, .ref p0 :: [], rest)) ∧ zx_T sc (d + 5) mj (0, [(0, .ref p0)], []) h (zf_oA r) h' := by
  unfold fv_6 at hv
  obtain ⟨ci, hk, hv⟩ := zf_kde hv
  obtain ⟨rfl, hv⟩ | ⟨-, hv⟩ := zf_ite hv
  · refine ⟨281, fun oc i y w st rest h1 h2 h3 h4 => ?_, zv_dp 5 <| t_f_String_toString _ _ _ _ hv⟩
    have h5 := zv_c12 (mj := 281) (npj := 0) h1 rfl rfl rfl h2 hk (by rw [h4, h3]; rfl)
    rw [h3] at h5
    exact h5
  obtain ⟨rfl, hv⟩ | ⟨-, hv⟩ := zf_ite hv
  · refine ⟨157, fun oc i y w st rest h1 h2 h3 h4 => ?_, t_f_StringBuilder_toString _ _ _ _ hv⟩
    have h5 := zv_c12 (mj := 157) (npj := 0) h1 rfl rfl rfl h2 hk (by rw [h4, h3]; rfl)
    rw [h3] at h5
    exact h5
  · cases hv
/-! String.valueOf (Ljava/lang/Object;)Ljava/lang/String; -/
noncomputable def zI_280 : zd_T := [[(0, .aload_n 0, 1), (1, .ifnonnull 9, 3), (4, .ldc_w 1005, 3), (7, .goto 7, 3), (10, .aload_n 0, 1), (11, .invokevirtual 1007, 3), (14, .areturn, 1)]]
theorem zo_280 : zd_of 280 = some zI_280 := rfl
set_option maxRecDepth 100000 in
theorem zq_280 : zt_m[280]? = some (⟨"java/lang/String", "valueOf", "(Ljava/lang/Object;)Ljava/lang/String;"⟩, prog_31_method_133_code, 1, some (.object "java/lang/String"), [], 0, 1, 0, 1, 99999, 0) := rfl
set_option maxHeartbeats 1000000 in
def f_String_valueOf (p0 : Nat) (h : zx_H) : Option (Nat × zx_H) :=
  zf_b2 (fv_6 p0 h) fun v1 h2 =>
  some (v1, h2)
set_option maxHeartbeats 4000000 in
set_option maxRecDepth 400000 in
theorem t_f_String_valueOf {sc : (Nat × (Nat → Int32)) × Bool} {d : Nat} (p0 : Nat) (h : zx_H) (r : Nat) (h' : zx_H) (hf : f_String_valueOf p0 h = some (r, h')) : zx_T sc (d + 6) 280 (0, [(0, .ref p0)], []) h (zf_oA r) h' := by
  unfold f_String_valueOf at hf
  refine zv_p (k := 3) (f' := (11, [(0, .ref p0)], [.ref p0])) zq_280 zo_280 (by with_unfolding_all rfl) ?_
  replace hf := zf_b2e hf
  obtain ⟨v1, h2, hv, hf⟩ := hf
  obtain ⟨mj, hcl, hrun⟩ := tv_6 hv
  refine zv_c zq_280 zo_280 rfl rfl rfl rfl rfl (hcl _ _ _ _ _ _ rfl rfl rfl rfl) hrun ?_
  cases hf
  exact zv_r zq_280 zo_280 rfl rfl rfl rfl rfl
/-! StringBuilder.append (Ljava/lang/Object;)Ljava/lang/StringBuilder; -/
noncomputable def zI_279 : zd_T := [[(0, .aload_n 0, 1), (1, .aload_n 1, 1), (2, .invokestatic 17, 3), (5, .invokevirtual 23, 3), (8, .areturn, 1)]]
theorem zo_279 : zd_of 279 = some zI_279 := rfl
set_option maxRecDepth 100000 in
theorem zq_279 : zt_m[279]? = some (⟨"java/lang/StringBuilder", "append", "(Ljava/lang/Object;)Ljava/lang/StringBuilder;"⟩, prog_32_method_6_code, 2, some (.object "java/lang/StringBuilder"), [], 1, 1, 0, 0, 0, 0) := rfl
set_option maxHeartbeats 1000000 in
def f_StringBuilder_appendq6 (p0 : Nat) (p1 : Nat) (h : zx_H) : Option (Nat × zx_H) :=
  zf_b2 (f_String_valueOf p1 h) fun v1 h2 =>
  zf_b (zf_is 1 p0 h2) fun _ =>
  zf_b2 (f_StringBuilder_appendq3 p0 v1 h2) fun v3 h4 =>
  some (v3, h4)
set_option maxHeartbeats 4000000 in
set_option maxRecDepth 400000 in
theorem t_f_StringBuilder_appendq6 {sc : (Nat × (Nat → Int32)) × Bool} {d : Nat} (p0 : Nat) (p1 : Nat) (h : zx_H) (r : Nat) (h' : zx_H) (hf : f_StringBuilder_appendq6 p0 p1 h = some (r, h')) : zx_T sc (d + 7) 279 (0, [(0, .ref p0), (1, .ref p1)], []) h (zf_oA r) h' := by
  unfold f_StringBuilder_appendq6 at hf
  refine zv_p (k := 2) (f' := (2, [(0, .ref p0), (1, .ref p1)], [.ref p1, .ref p0])) zq_279 zo_279 (by with_unfolding_all rfl) ?_
  replace hf := zf_b2e hf
  obtain ⟨v1, h2, hv, hf⟩ := hf
  refine zv_c zq_279 zo_279 rfl rfl rfl rfl rfl rfl (t_f_String_valueOf _ _ _ _ hv) ?_
  replace hf := zf_be hf
  obtain ⟨_, ho, hf⟩ := hf
  replace hf := zf_b2e hf
  obtain ⟨v3, h4, hv, hf⟩ := hf
  refine zv_c zq_279 zo_279 rfl rfl rfl rfl rfl (zv_cv rfl rfl rfl (zf_ise ho) rfl) (t_f_StringBuilder_appendq3 _ _ _ _ _ hv) ?_
  cases hf
  exact zv_r zq_279 zo_279 rfl rfl rfl rfl rfl
/-! ColumnVault.turnChoice (I)I -/
noncomputable def zI_282 : zd_T := [[(0, .aload_n 0, 1), (1, .iload_n 1, 1), (2, .invokevirtual 53, 3), (5, .pop, 1), (6, .aload_n 0, 1), (7, .iload_n 1, 1), (8, .invokevirtual 75, 3), (11, .astore_n 2, 1), (12, .aload_n 2, 1), (13, .aload_n 2, 1), (14, .invokevirtual 195, 3), (17, .aload_n 2, 1), (18, .getfield 133, 3), (21, .ldc2_w 193, 3), (24, .lxor, 1), (25, .land, 1), (26, .putfield 133, 3), (29, .aload_n 2, 1), (30, .getfield 133, 3)], [(33, .invokestatic 137, 3), (36, .ireturn, 1)]]
theorem zo_282 : zd_of 282 = some zI_282 := rfl
set_option maxRecDepth 100000 in
theorem zq_282 : zt_m[282]? = some (⟨"ColumnVault", "turnChoice", "(I)I"⟩, prog_1_method_17_code, 3, some (.int), [], 12, 1, 0, 0, 0, 0) := rfl
set_option maxHeartbeats 1000000 in
def f_ColumnVault_turnChoice (p0 : Nat) (p1 : Int32) (h : zx_H) : Option ((Int32 ⊕ Nat) × zx_H) :=
  zf_b (zf_is 12 p0 h) fun _ =>
  zf_b3 (f_ColumnVault_sheetOf p0 p1 h) fun v1 h2 =>
  zf_b (zf_is 12 p0 h2) fun _ =>
  zf_b3 (f_ColumnVault_nextSheetOf p0 p1 h2) fun v4 h5 =>
  zf_b (zf_is 10 v4 h5) fun _ =>
  zf_b2 (f_Sheet_allRows v4 h5) fun v7 h8 =>
  zf_b (zf_J 10 5 v4 h8) fun v9 =>
  zf_b (zf_put 10 5 v4 (.long (v7 &&& (v9 ^^^ (-1 : Int64)))) h8) fun h10 =>
  zf_b (zf_J 10 5 v4 h10) fun v11 =>
  zf_b2 (f_Long_bitCount v11 h10) fun v12 h13 =>
  some (.inl v12, h13)
set_option maxHeartbeats 4000000 in
set_option maxRecDepth 400000 in
theorem t_f_ColumnVault_turnChoice {sc : (Nat × (Nat → Int32)) × Bool} {d : Nat} (p0 : Nat) (p1 : Int32) (h : zx_H) (r : (Int32 ⊕ Nat)) (h' : zx_H) (hf : f_ColumnVault_turnChoice p0 p1 h = some (r, h')) : zx_T sc (d + 3) 282 (0, [(0, .ref p0), (1, .int p1)], []) h (zf_oIx r) h' := by
  unfold f_ColumnVault_turnChoice at hf
  refine zv_p (k := 2) (f' := (2, [(0, .ref p0), (1, .int p1)], [.int p1, .ref p0])) zq_282 zo_282 (by with_unfolding_all rfl) ?_
  replace hf := zf_be hf
  obtain ⟨_, ho, hf⟩ := hf
  replace hf := zf_b3e hf
  obtain ⟨v1, h2, hv, hf⟩ | ⟨E3, h2, hv, hf⟩ := hf
  rotate_left
  · cases hf; exact zv_cx zq_282 zo_282 rfl rfl rfl rfl rfl (zv_cv rfl rfl rfl (zf_ise ho) rfl) (t_f_ColumnVault_sheetOf _ _ _ _ _ hv) rfl
  refine zv_c zq_282 zo_282 rfl rfl rfl rfl rfl (zv_cv rfl rfl rfl (zf_ise ho) rfl) (t_f_ColumnVault_sheetOf _ _ _ _ _ hv) ?_
  refine zv_p (k := 3) (f' := (8, [(0, .ref p0), (1, .int p1)], [.int p1, .ref p0])) zq_282 zo_282 (by with_unfolding_all rfl) ?_
  replace hf := zf_be hf
  obtain ⟨_, ho, hf⟩ := hf
  replace hf := zf_b3e hf
  obtain ⟨v4, h5, hv, hf⟩ | ⟨E6, h5, hv, hf⟩ := hf
  rotate_left
  · cases hf; exact zv_cx zq_282 zo_282 rfl rfl rfl rfl rfl (zv_cv rfl rfl rfl (zf_ise ho) rfl) (t_f_ColumnVault_nextSheetOf _ _ _ _ _ hv) rfl
  refine zv_c zq_282 zo_282 rfl rfl rfl rfl rfl (zv_cv rfl rfl rfl (zf_ise ho) rfl) (t_f_ColumnVault_nextSheetOf _ _ _ _ _ hv) ?_
  refine zv_p (k := 3) (f' := (14, [(2, .ref v4), (0, .ref p0), (1, .int p1)], [.ref v4, .ref v4])) zq_282 zo_282 (by with_unfolding_all rfl) ?_
  replace hf := zf_be hf
  obtain ⟨_, ho, hf⟩ := hf
  replace hf := zf_b2e hf
  obtain ⟨v7, h8, hv, hf⟩ := hf
  refine zv_c zq_282 zo_282 rfl rfl rfl rfl rfl (zv_cv rfl rfl rfl (zf_ise ho) rfl) (t_f_Sheet_allRows _ _ _ _ hv) ?_
  refine zv_p (k := 1) (f' := (18, [(2, .ref v4), (0, .ref p0), (1, .int p1)], [.ref v4, .long v7, .ref v4])) zq_282 zo_282 (by with_unfolding_all rfl) ?_
  replace hf := zf_be hf
  obtain ⟨v9, hv, hf⟩ := hf
  refine zv_gf zq_282 zo_282 rfl rfl rfl (zf_Je hv) ?_
  refine zv_lng zq_282 zo_282 rfl rfl ?_
  refine zv_p (k := 2) (f' := (26, [(2, .ref v4), (0, .ref p0), (1, .int p1)], [.long (v7 &&& (v9 ^^^ (-1 : Int64))), .ref v4])) zq_282 zo_282 (by with_unfolding_all rfl) ?_
  replace hf := zf_be hf
  obtain ⟨h10, hv, hf⟩ := hf
  refine zv_pf zq_282 zo_282 rfl rfl rfl rfl hv ?_
  refine zv_p (k := 1) (f' := (30, [(2, .ref v4), (0, .ref p0), (1, .int p1)], [.ref v4])) zq_282 zo_282 (by with_unfolding_all rfl) ?_
  replace hf := zf_be hf
  obtain ⟨v11, hv, hf⟩ := hf
  refine zv_gf zq_282 zo_282 rfl rfl rfl (zf_Je hv) ?_
  replace hf := zf_b2e hf
  obtain ⟨v12, h13, hv, hf⟩ := hf
  refine zv_c zq_282 zo_282 rfl rfl rfl rfl rfl rfl (t_f_Long_bitCount _ _ _ _ hv) ?_
  cases hf
  exact zv_rn zq_282 zo_282 rfl rfl
