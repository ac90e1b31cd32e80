set_option maxHeartbeats 1000000 in
def f_ColumnVaultLaw_draw (p0 : Nat) (p1 : Int32) (h : zx_H) : Option (Int32 × zx_H) :=
  zf_b (zf_ldI p0 (0 : Int32) h) fun v1 =>
  zf_b (zf_stI p0 (0 : Int32) ((v1 * (1103515245 : Int32)) + (12345 : Int32)) h) fun h2 =>
  zf_b (zf_ldI p0 (1 : Int32) h2) fun v3 =>
  zf_b (zf_ldI p0 (0 : Int32) h2) fun v4 =>
  zf_b (zf_stI p0 (1 : Int32) (((v3 ^^^ ((v4).toUInt32 >>> (((9 : Int32)).toUInt32 &&& Int32.toUInt32 31)).toInt32) * (69069 : Int32)) + (1 : Int32)) h2) fun h5 =>
  zf_b (zf_ldI p0 (1 : Int32) h5) fun v6 =>
  zf_b (zf_ldI p0 (1 : Int32) h5) fun v7 =>
  if p1 = 0 then none else
  some (((((v6 ^^^ ((v7).toUInt32 >>> (((16 : Int32)).toUInt32 &&& Int32.toUInt32 31)).toInt32)).toUInt32 >>> (((4 : Int32)).toUInt32 &&& Int32.toUInt32 31)).toInt32 - (((v6 ^^^ ((v7).toUInt32 >>> (((16 : Int32)).toUInt32 &&& Int32.toUInt32 31)).toInt32)).toUInt32 >>> (((4 : Int32)).toUInt32 &&& Int32.toUInt32 31)).toInt32 / p1 * p1), h5)
set_option maxHeartbeats 4000000 in
set_option maxRecDepth 400000 in
theorem t_f_ColumnVaultLaw_draw {sc : (Nat × (Nat → Int32)) × Bool} {d : Nat} (p0 : Nat) (p1 : Int32) (h : zx_H) (r : Int32) (h' : zx_H) (hf : f_ColumnVaultLaw_draw p0 p1 h = some (r, h')) : zx_T sc d 20 (0, [(0, .ref p0), (1, .int p1)], []) h (zf_oI r) h' := by
  unfold f_ColumnVaultLaw_draw at hf
  refine zv_p (k := 4) (f' := (4, [(0, .ref p0), (1, .int p1)], [.int (0 : Int32), .ref p0, .int (0 : Int32), .ref p0])) zq_20 zo_20 (by with_unfolding_all rfl) ?_
  replace hf := zf_be hf
  obtain ⟨v1, hv, hf⟩ := hf
  refine zv_ldI zq_20 zo_20 rfl hv ?_
  refine zv_ldi zq_20 zo_20 rfl rfl rfl ?_
  refine zv_p (k := 3) (f' := (12, [(0, .ref p0), (1, .int p1)], [.int ((v1 * (1103515245 : Int32)) + (12345 : Int32)), .int (0 : Int32), .ref p0])) zq_20 zo_20 (by with_unfolding_all rfl) ?_
  replace hf := zf_be hf
  obtain ⟨h2, hv, hf⟩ := hf
  refine zv_stI zq_20 zo_20 rfl hv ?_
  refine zv_p (k := 4) (f' := (17, [(0, .ref p0), (1, .int p1)], [.int (1 : Int32), .ref p0, .int (1 : Int32), .ref p0])) zq_20 zo_20 (by with_unfolding_all rfl) ?_
  replace hf := zf_be hf
  obtain ⟨v3, hv, hf⟩ := hf
  refine zv_ldI zq_20 zo_20 rfl hv ?_
  refine zv_p (k := 2) (f' := (20, [(0, .ref p0), (1, .int p1)], [.int (0 : Int32), .ref p0, .int v3, .int (1 : Int32), .ref p0])) zq_20 zo_20 (by with_unfolding_all rfl) ?_
  replace hf := zf_be hf
  obtain ⟨v4, hv, hf⟩ := hf
  refine zv_ldI zq_20 zo_20 rfl hv ?_
  refine zv_p (k := 3) (f' := (25, [(0, .ref p0), (1, .int p1)], [.int (v3 ^^^ ((v4).toUInt32 >>> (((9 : Int32)).toUInt32 &&& Int32.toUInt32 31)).toInt32), .int (1 : Int32), .ref p0])) zq_20 zo_20 (by with_unfolding_all rfl) ?_
  refine zv_ldi zq_20 zo_20 rfl rfl rfl ?_
  refine zv_p (k := 3) (f' := (30, [(0, .ref p0), (1, .int p1)], [.int (((v3 ^^^ ((v4).toUInt32 >>> (((9 : Int32)).toUInt32 &&& Int32.toUInt32 31)).toInt32) * (69069 : Int32)) + (1 : Int32)), .int (1 : Int32), .ref p0])) zq_20 zo_20 (by with_unfolding_all rfl) ?_
  replace hf := zf_be hf
  obtain ⟨h5, hv, hf⟩ := hf
  refine zv_stI zq_20 zo_20 rfl hv ?_
  refine zv_p (k := 2) (f' := (33, [(0, .ref p0), (1, .int p1)], [.int (1 : Int32), .ref p0])) zq_20 zo_20 (by with_unfolding_all rfl) ?_
  replace hf := zf_be hf
  obtain ⟨v6, hv, hf⟩ := hf
  refine zv_ldI zq_20 zo_20 rfl hv ?_
  refine zv_p (k := 2) (f' := (36, [(0, .ref p0), (1, .int p1)], [.int (1 : Int32), .ref p0, .int v6])) zq_20 zo_20 (by with_unfolding_all rfl) ?_
  replace hf := zf_be hf
  obtain ⟨v7, hv, hf⟩ := hf
  refine zv_ldI zq_20 zo_20 rfl hv ?_
  refine zv_p (k := 6) (f' := (44, [(0, .ref p0), (1, .int p1)], [.int p1, .int (((v6 ^^^ ((v7).toUInt32 >>> (((16 : Int32)).toUInt32 &&& Int32.toUInt32 31)).toInt32)).toUInt32 >>> (((4 : Int32)).toUInt32 &&& Int32.toUInt32 31)).toInt32])) zq_20 zo_20 (by with_unfolding_all rfl) ?_
  replace hf := zf_ite hf
  obtain ⟨hc, hf⟩ | ⟨hc, hf⟩ := hf
  · cases hf
  refine zv_div_irem zq_20 zo_20 rfl hc ?_
  cases hf
  exact zv_rn zq_20 zo_20 rfl rfl
/-! ColumnVault$Sheet.copyFrom (LColumnVault$Sheet;)V -/
noncomputable def zI_25 : zd_T := [[(0, .aload_n 1, 1), (1, .getfield 9, 3), (4, .iconst 0, 1), (5, .aload_n 0, 1), (6, .getfield 9, 3), (9, .iconst 0, 1), (10, .iconst 4, 1), (11, .invokestatic 33, 3), (14, .aload_n 1, 1), (15, .getfield 15, 3), (18, .iconst 0, 1), (19, .aload_n 0, 1), (20, .getfield 15, 3), (23, .iconst 0, 1), (24, .sipush 160, 3), (27, .invokestatic 33, 3), (30, .aload_n 1, 1), (31, .getfield 19, 3)], [(34, .iconst 0, 1), (35, .aload_n 0, 1), (36, .getfield 19, 3), (39, .iconst 0, 1), (40, .bipush 40, 2), (42, .invokestatic 33, 3), (45, .aload_n 0, 1), (46, .aload_n 1, 1), (47, .getfield 22, 3), (50, .putfield 22, 3), (53, .aload_n 0, 1), (54, .aload_n 1, 1), (55, .getfield 26, 3), (58, .putfield 26, 3), (61, .aload_n 0, 1), (62, .aload_n 1, 1), (63, .getfield 29, 3)], [(66, .putfield 29, 3), (69, .return_, 1)]]
theorem zo_25 : zd_of 25 = some zI_25 := rfl
set_option maxRecDepth 100000 in
theorem zq_25 : zt_m[25]? = some (⟨"ColumnVault$Sheet", "copyFrom", "(LColumnVault$Sheet;)V"⟩, prog_10_method_2_code, 2, none, [], 10, 1, 0, 0, 0, 0) := rfl
set_option maxHeartbeats 1000000 in
def f_Sheet_copyFrom (p0 : Nat) (p1 : Nat) (h : zx_H) : Option (Unit × zx_H) :=
  zf_b (zf_A 10 0 p1 h) fun v1 =>
  zf_b (zf_A 10 0 p0 h) fun v2 =>
  zf_b (zf_cpy v1 (0 : Int32) v2 (0 : Int32) (4 : Int32) h) fun h3 =>
  zf_b (zf_A 10 1 p1 h3) fun v4 =>
  zf_b (zf_A 10 1 p0 h3) fun v5 =>
  zf_b (zf_cpy v4 (0 : Int32) v5 (0 : Int32) (160 : Int32) h3) fun h6 =>
  zf_b (zf_A 10 2 p1 h6) fun v7 =>
  zf_b (zf_A 10 2 p0 h6) fun v8 =>
  zf_b (zf_cpy v7 (0 : Int32) v8 (0 : Int32) (40 : Int32) h6) fun h9 =>
  zf_b (zf_I 10 3 p1 h9) fun v10 =>
  zf_b (zf_put 10 3 p0 (.int v10) h9) fun h11 =>
  zf_b (zf_I 10 4 p1 h11) fun v12 =>
  zf_b (zf_put 10 4 p0 (.int v12) h11) fun h13 =>
  zf_b (zf_J 10 5 p1 h13) fun v14 =>
  zf_b (zf_put 10 5 p0 (.long v14) h13) fun h15 =>
  some ((), h15)
set_option maxHeartbeats 4000000 in
set_option maxRecDepth 400000 in
theorem t_f_Sheet_copyFrom {sc : (Nat × (Nat → Int32)) × Bool} {d : Nat} (p0 : Nat) (p1 : Nat) (h : zx_H) (r : Unit) (h' : zx_H) (hf : f_Sheet_copyFrom p0 p1 h = some (r, h')) : zx_T sc d 25 (0, [(0, .ref p0), (1, .ref p1)], []) h (zf_oV r) h' := by
  unfold f_Sheet_copyFrom at hf
  refine zv_p (k := 1) (f' := (1, [(0, .ref p0), (1, .ref p1)], [.ref p1])) zq_25 zo_25 (by with_unfolding_all rfl) ?_
  replace hf := zf_be hf
  obtain ⟨v1, hv, hf⟩ := hf
  refine zv_gf zq_25 zo_25 rfl rfl rfl (zf_Ae hv) ?_
  refine zv_p (k := 2) (f' := (6, [(0, .ref p0), (1, .ref p1)], [.ref p0, .int (0 : Int32), .ref v1])) zq_25 zo_25 (by with_unfolding_all rfl) ?_
  replace hf := zf_be hf
  obtain ⟨v2, hv, hf⟩ := hf
  refine zv_gf zq_25 zo_25 rfl rfl rfl (zf_Ae hv) ?_
  refine zv_p (k := 2) (f' := (11, [(0, .ref p0), (1, .ref p1)], [.int (4 : Int32), .int (0 : Int32), .ref v2, .int (0 : Int32), .ref v1])) zq_25 zo_25 (by with_unfolding_all rfl) ?_
  replace hf := zf_be hf
  obtain ⟨h3, hv, hf⟩ := hf
  refine zv_cpy zq_25 zo_25 rfl rfl rfl hv ?_
  refine zv_p (k := 1) (f' := (15, [(0, .ref p0), (1, .ref p1)], [.ref p1])) zq_25 zo_25 (by with_unfolding_all rfl) ?_
  replace hf := zf_be hf
  obtain ⟨v4, hv, hf⟩ := hf
  refine zv_gf zq_25 zo_25 rfl rfl rfl (zf_Ae hv) ?_
  refine zv_p (k := 2) (f' := (20, [(0, .ref p0), (1, .ref p1)], [.ref p0, .int (0 : Int32), .ref v4])) zq_25 zo_25 (by with_unfolding_all rfl) ?_
  replace hf := zf_be hf
  obtain ⟨v5, hv, hf⟩ := hf
  refine zv_gf zq_25 zo_25 rfl rfl rfl (zf_Ae hv) ?_
  refine zv_p (k := 2) (f' := (27, [(0, .ref p0), (1, .ref p1)], [.int (160 : Int32), .int (0 : Int32), .ref v5, .int (0 : Int32), .ref v4])) zq_25 zo_25 (by with_unfolding_all rfl) ?_
  replace hf := zf_be hf
  obtain ⟨h6, hv, hf⟩ := hf
  refine zv_cpy zq_25 zo_25 rfl rfl rfl hv ?_
  refine zv_p (k := 1) (f' := (31, [(0, .ref p0), (1, .ref p1)], [.ref p1])) zq_25 zo_25 (by with_unfolding_all rfl) ?_
  replace hf := zf_be hf
  obtain ⟨v7, hv, hf⟩ := hf
  refine zv_gf zq_25 zo_25 rfl rfl rfl (zf_Ae hv) ?_
  refine zv_p (k := 2) (f' := (36, [(0, .ref p0), (1, .ref p1)], [.ref p0, .int (0 : Int32), .ref v7])) zq_25 zo_25 (by with_unfolding_all rfl) ?_
  replace hf := zf_be hf
  obtain ⟨v8, hv, hf⟩ := hf
  refine zv_gf zq_25 zo_25 rfl rfl rfl (zf_Ae hv) ?_
  refine zv_p (k := 2) (f' := (42, [(0, .ref p0), (1, .ref p1)], [.int (40 : Int32), .int (0 : Int32), .ref v8, .int (0 : Int32), .ref v7])) zq_25 zo_25 (by with_unfolding_all rfl) ?_
  replace hf := zf_be hf
  obtain ⟨h9, hv, hf⟩ := hf
  refine zv_cpy zq_25 zo_25 rfl rfl rfl hv ?_
  refine zv_p (k := 2) (f' := (47, [(0, .ref p0), (1, .ref p1)], [.ref p1, .ref p0])) zq_25 zo_25 (by with_unfolding_all rfl) ?_
  replace hf := zf_be hf
  obtain ⟨v10, hv, hf⟩ := hf
  refine zv_gf zq_25 zo_25 rfl rfl rfl (zf_Ie hv) ?_
  replace hf := zf_be hf
  obtain ⟨h11, hv, hf⟩ := hf
  refine zv_pf zq_25 zo_25 rfl rfl rfl rfl hv ?_
  refine zv_p (k := 2) (f' := (55, [(0, .ref p0), (1, .ref p1)], [.ref p1, .ref p0])) zq_25 zo_25 (by with_unfolding_all rfl) ?_
  replace hf := zf_be hf
  obtain ⟨v12, hv, hf⟩ := hf
  refine zv_gf zq_25 zo_25 rfl rfl rfl (zf_Ie hv) ?_
  replace hf := zf_be hf
  obtain ⟨h13, hv, hf⟩ := hf
  refine zv_pf zq_25 zo_25 rfl rfl rfl rfl hv ?_
  refine zv_p (k := 2) (f' := (63, [(0, .ref p0), (1, .ref p1)], [.ref p1, .ref p0])) zq_25 zo_25 (by with_unfolding_all rfl) ?_
  replace hf := zf_be hf
  obtain ⟨v14, hv, hf⟩ := hf
  refine zv_gf zq_25 zo_25 rfl rfl rfl (zf_Je hv) ?_
  replace hf := zf_be hf
  obtain ⟨h15, hv, hf⟩ := hf
  refine zv_pf zq_25 zo_25 rfl rfl rfl rfl hv ?_
  cases hf
  exact zv_r zq_25 zo_25 rfl rfl rfl rfl rfl
/-! ColumnVault$History.makeNextFrom (I)V -/
noncomputable def zI_24 : zd_T := [[(0, .iconst 0, 1), (1, .istore_n 2, 1), (2, .iload_n 2, 1), (3, .iconst 3, 1), (4, .if_icmp .ge 44, 3), (7, .aload_n 0, 1), (8, .iload_n 1, 1), (9, .iload_n 2, 1), (10, .invokevirtual 22, 3), (13, .astore_n 3, 1), (14, .aload_n 0, 1), (15, .aload_n 0, 1), (16, .getfield 17, 3), (19, .iconst 1, 1), (20, .iadd, 1), (21, .iload_n 2, 1), (22, .invokevirtual 22, 3), (25, .astore 4, 2), (27, .aload_n 3, 1), (28, .ifnull 14, 3), (31, .aload 4, 2)], [(33, .ifnull 9, 3), (36, .aload 4, 2), (38, .aload_n 3, 1), (39, .invokevirtual 26, 3), (42, .iinc 2 1, 3), (45, .goto (-43), 3), (48, .aload_n 0, 1), (49, .dup, 1), (50, .getfield 17, 3), (53, .iconst 1, 1), (54, .iadd, 1), (55, .putfield 17, 3), (58, .return_, 1)]]
theorem zo_24 : zd_of 24 = some zI_24 := rfl
set_option maxRecDepth 100000 in
theorem zq_24 : zt_m[24]? = some (⟨"ColumnVault$History", "makeNextFrom", "(I)V"⟩, prog_6_method_4_code, 5, none, [], 6, 1, 0, 0, 0, 0) := rfl
set_option maxHeartbeats 1000000 in
def f_History_makeNextFrom_2 : Nat → Nat → Int32 → Int32 → zx_H → Option (Unit × zx_H)
  | 0, _, _, _, _ => none
  | n + 1, p0, p1, p2, h =>
    if (3 : Int32) ≤ p2 then
      zf_b (zf_I 6 1 p0 h) fun v1 =>
      zf_b (zf_put 6 1 p0 (.int (v1 + (1 : Int32))) h) fun h2 =>
      some ((), h2)
    else
      zf_b (zf_is 6 p0 h) fun _ =>
      zf_b2 (f_History_sheetIn p0 p1 p2 h) fun v3 h4 =>
      zf_b (zf_I 6 1 p0 h4) fun v5 =>
      zf_b (zf_is 6 p0 h4) fun _ =>
      zf_b2 (f_History_sheetIn p0 (v5 + (1 : Int32)) p2 h4) fun v6 h7 =>
      zf_on v3 (
        (f_History_makeNextFrom_2 n) p0 p1 (p2 + (1 : Int32)) h7
      ) fun q8 =>
        zf_on v6 (
          (f_History_makeNextFrom_2 n) p0 p1 (p2 + (1 : Int32)) h7
        ) fun q9 =>
          zf_b (zf_is 10 q9 h7) fun _ =>
          zf_b2 (f_Sheet_copyFrom q9 q8 h7) fun _ h11 =>
          (f_History_makeNextFrom_2 n) p0 p1 (p2 + (1 : Int32)) h11
set_option maxHeartbeats 4000000 in
set_option maxRecDepth 400000 in
theorem t_f_History_makeNextFrom_2 {sc : (Nat × (Nat → Int32)) × Bool} {d : Nat} : ∀ (n : Nat) (p0 : Nat) (p1 : Int32) (p2 : Int32) (h : zx_H) (r : Unit) (h' : zx_H), f_History_makeNextFrom_2 n p0 p1 p2 h = some (r, h') → zx_T sc (d + 1) 24 (2, [(0, .ref p0), (1, .int p1), (2, .int p2)], []) h (zf_oV r) h' := by
  intro n
  induction n with
  | zero => intro p0 p1 p2 h r h' hf; cases hf
  | succ n ih =>
    intro p0 p1 p2 h r h' hf
    unfold f_History_makeNextFrom_2 at hf
    refine zv_p (k := 2) (f' := (4, [(0, .ref p0), (1, .int p1), (2, .int p2)], [.int (3 : Int32), .int p2])) zq_24 zo_24 (by with_unfolding_all rfl) ?_
    replace hf := zf_ite hf
    obtain ⟨hc, hf⟩ | ⟨hc, hf⟩ := hf
    · refine zv_brT (off := 44) (tt := 48) (r := []) zq_24 zo_24 hc rfl rfl rfl ?_
      refine zv_p (k := 2) (f' := (50, [(0, .ref p0), (1, .int p1), (2, .int p2)], [.ref p0, .ref p0])) zq_24 zo_24 (by with_unfolding_all rfl) ?_
      replace hf := zf_be hf
      obtain ⟨v1, hv, hf⟩ := hf
      refine zv_gf zq_24 zo_24 rfl rfl rfl (zf_Ie hv) ?_
      refine zv_p (k := 2) (f' := (55, [(0, .ref p0), (1, .int p1), (2, .int p2)], [.int (v1 + (1 : Int32)), .ref p0])) zq_24 zo_24 (by with_unfolding_all rfl) ?_
      replace hf := zf_be hf
      obtain ⟨h2, hv, hf⟩ := hf
      refine zv_pf zq_24 zo_24 rfl rfl rfl rfl hv ?_
      cases hf
      exact zv_r zq_24 zo_24 rfl rfl rfl rfl rfl
    · refine zv_brF (off := 44) (tt := 48) (r := []) zq_24 zo_24 hc rfl rfl rfl ?_
      refine zv_p (k := 3) (f' := (10, [(0, .ref p0), (1, .int p1), (2, .int p2)], [.int p2, .int p1, .ref p0])) zq_24 zo_24 (by with_unfolding_all rfl) ?_
      replace hf := zf_be hf
      obtain ⟨_, ho, hf⟩ := hf
      replace hf := zf_b2e hf
      obtain ⟨v3, h4, hv, hf⟩ := hf
      refine zv_c zq_24 zo_24 rfl rfl rfl rfl rfl (zv_cv rfl rfl rfl (zf_ise ho) rfl) (t_f_History_sheetIn _ _ _ _ _ _ hv) ?_
      refine zv_p (k := 3) (f' := (16, [(3, zx_rf v3), (0, .ref p0), (1, .int p1), (2, .int p2)], [.ref p0, .ref p0])) zq_24 zo_24 (by cases v3 <;> with_unfolding_all rfl) ?_
      replace hf := zf_be hf
      obtain ⟨v5, hv, hf⟩ := hf
      refine zv_gf zq_24 zo_24 rfl rfl rfl (zf_Ie hv) ?_
      refine zv_p (k := 3) (f' := (22, [(3, zx_rf v3), (0, .ref p0), (1, .int p1), (2, .int p2)], [.int p2, .int (v5 + (1 : Int32)), .ref p0])) zq_24 zo_24 (by cases v3 <;> with_unfolding_all rfl) ?_
      replace hf := zf_be hf
      obtain ⟨_, ho, hf⟩ := hf
      replace hf := zf_b2e hf
      obtain ⟨v6, h7, hv, hf⟩ := hf
      refine zv_c zq_24 zo_24 rfl rfl rfl rfl rfl (zv_cv rfl rfl rfl (zf_ise ho) rfl) (t_f_History_sheetIn _ _ _ _ _ _ hv) ?_
      refine zv_p (k := 2) (f' := (28, [(4, zx_rf v6), (3, zx_rf v3), (0, .ref p0), (1, .int p1), (2, .int p2)], [zx_rf v3])) zq_24 zo_24 (by cases v3 <;> cases v6 <;> with_unfolding_all rfl) ?_
      replace hf := zf_elim hf
      obtain ⟨rfl, hf⟩ | ⟨q8, rfl, hf⟩ := hf
      · refine zv_p (k := 1) (f' := (42, [(4, zx_rf v6), (3, .null), (0, .ref p0), (1, .int p1), (2, .int p2)], [])) zq_24 zo_24 (by with_unfolding_all rfl) ?_
        refine zv_p (k := 2) (f' := (2, [(2, .int (p2 + (1 : Int32))), (4, zx_rf v6), (3, .null), (0, .ref p0), (1, .int p1)], [])) zq_24 zo_24 (by cases v6 <;> with_unfolding_all rfl) ?_
        refine zv_pick (lv' := [(0, .ref p0), (1, .int p1), (2, .int (p2 + (1 : Int32)))]) [0, 1, 2] (by cases v6 <;> rfl) rfl ?_
        exact ih _ _ _ _ _ _ hf
      · refine zv_p (k := 1) (f' := (31, [(4, zx_rf v6), (3, .ref q8), (0, .ref p0), (1, .int p1), (2, .int p2)], [])) zq_24 zo_24 (by with_unfolding_all rfl) ?_
        refine zv_p (k := 1) (f' := (33, [(4, zx_rf v6), (3, .ref q8), (0, .ref p0), (1, .int p1), (2, .int p2)], [zx_rf v6])) zq_24 zo_24 (by cases v6 <;> with_unfolding_all rfl) ?_
        replace hf := zf_elim hf
        obtain ⟨rfl, hf⟩ | ⟨q9, rfl, hf⟩ := hf
        · refine zv_p (k := 1) (f' := (42, [(4, .null), (3, .ref q8), (0, .ref p0), (1, .int p1), (2, .int p2)], [])) zq_24 zo_24 (by with_unfolding_all rfl) ?_
          refine zv_p (k := 2) (f' := (2, [(2, .int (p2 + (1 : Int32))), (4, .null), (3, .ref q8), (0, .ref p0), (1, .int p1)], [])) zq_24 zo_24 (by with_unfolding_all rfl) ?_
          refine zv_pick (lv' := [(0, .ref p0), (1, .int p1), (2, .int (p2 + (1 : Int32)))]) [0, 1, 2] rfl rfl ?_
          exact ih _ _ _ _ _ _ hf
        · refine zv_p (k := 1) (f' := (36, [(4, .ref q9), (3, .ref q8), (0, .ref p0), (1, .int p1), (2, .int p2)], [])) zq_24 zo_24 (by with_unfolding_all rfl) ?_
          refine zv_p (k := 2) (f' := (39, [(4, .ref q9), (3, .ref q8), (0, .ref p0), (1, .int p1), (2, .int p2)], [.ref q8, .ref q9])) zq_24 zo_24 (by with_unfolding_all rfl) ?_
          replace hf := zf_be hf
          obtain ⟨_, ho, hf⟩ := hf
          replace hf := zf_b2e hf
          obtain ⟨v10, h11, hv, hf⟩ := hf
          refine zv_c zq_24 zo_24 rfl rfl rfl rfl rfl (zv_cv rfl rfl rfl (zf_ise ho) rfl) (t_f_Sheet_copyFrom _ _ _ _ _ hv) ?_
          refine zv_p (k := 2) (f' := (2, [(2, .int (p2 + (1 : Int32))), (4, .ref q9), (3, .ref q8), (0, .ref p0), (1, .int p1)], [])) zq_24 zo_24 (by with_unfolding_all rfl) ?_
          refine zv_pick (lv' := [(0, .ref p0), (1, .int p1), (2, .int (p2 + (1 : Int32)))]) [0, 1, 2] rfl rfl ?_
          exact ih _ _ _ _ _ _ hf
set_option maxHeartbeats 1000000 in
def f_History_makeNextFrom (p0 : Nat) (p1 : Int32) (h : zx_H) : Option (Unit × zx_H) :=
  f_History_makeNextFrom_2 zF p0 p1 (0 : Int32) h
set_option maxHeartbeats 4000000 in
set_option maxRecDepth 400000 in
theorem t_f_History_makeNextFrom {sc : (Nat × (Nat → Int32)) × Bool} {d : Nat} (p0 : Nat) (p1 : Int32) (h : zx_H) (r : Unit) (h' : zx_H) (hf : f_History_makeNextFrom p0 p1 h = some (r, h')) : zx_T sc (d + 1) 24 (0, [(0, .ref p0), (1, .int p1)], []) h (zf_oV r) h' := by
  unfold f_History_makeNextFrom at hf
  refine zv_p (k := 2) (f' := (2, [(2, .int (0 : Int32)), (0, .ref p0), (1, .int p1)], [])) zq_24 zo_24 (by with_unfolding_all rfl) ?_
  refine zv_pick (lv' := [(0, .ref p0), (1, .int p1), (2, .int (0 : Int32))]) [0, 1, 2] rfl rfl ?_
  exact t_f_History_makeNextFrom_2 zF _ _ _ _ _ _ hf
/-! ColumnVault.nextSheetOf (I)LColumnVault$Sheet; -/
noncomputable def zI_23 : zd_T := [[(0, .aload_n 0, 1), (1, .getfield 14, 3), (4, .aload_n 0, 1), (5, .getfield 14, 3), (8, .getfield 146, 3), (11, .invokevirtual 158, 3), (14, .aload_n 0, 1), (15, .iload_n 1, 1), (16, .invokevirtual 53, 3), (19, .areturn, 1)]]
theorem zo_23 : zd_of 23 = some zI_23 := rfl
set_option maxRecDepth 100000 in
theorem zq_23 : zt_m[23]? = some (⟨"ColumnVault", "nextSheetOf", "(I)LColumnVault$Sheet;"⟩, prog_1_method_43_code, 2, some (.object "ColumnVault$Sheet"), [], 12, 1, 0, 0, 0, 0) := rfl
set_option maxHeartbeats 1000000 in
def f_ColumnVault_nextSheetOf (p0 : Nat) (p1 : Int32) (h : zx_H) : Option ((Nat ⊕ Nat) × zx_H) :=
  zf_b (zf_A 12 0 p0 h) fun v1 =>
  zf_b (zf_A 12 0 p0 h) fun v2 =>
  zf_b (zf_I 6 1 v2 h) fun v3 =>
  zf_b (zf_is 6 v1 h) fun _ =>
  zf_b2 (f_History_makeNextFrom v1 v3 h) fun _ h5 =>
  zf_b (zf_is 12 p0 h5) fun _ =>
  zf_b3 (f_ColumnVault_sheetOf p0 p1 h5) fun v6 h7 =>
  some (.inl v6, h7)
set_option maxHeartbeats 4000000 in
set_option maxRecDepth 400000 in
theorem t_f_ColumnVault_nextSheetOf {sc : (Nat × (Nat → Int32)) × Bool} {d : Nat} (p0 : Nat) (p1 : Int32) (h : zx_H) (r : (Nat ⊕ Nat)) (h' : zx_H) (hf : f_ColumnVault_nextSheetOf p0 p1 h = some (r, h')) : zx_T sc (d + 2) 23 (0, [(0, .ref p0), (1, .int p1)], []) h (zf_oAx r) h' := by
  unfold f_ColumnVault_nextSheetOf at hf
  refine zv_p (k := 1) (f' := (1, [(0, .ref p0), (1, .int p1)], [.ref p0])) zq_23 zo_23 (by with_unfolding_all rfl) ?_
  replace hf := zf_be hf
  obtain ⟨v1, hv, hf⟩ := hf
  refine zv_gf zq_23 zo_23 rfl rfl rfl (zf_Ae hv) ?_
  refine zv_p (k := 1) (f' := (5, [(0, .ref p0), (1, .int p1)], [.ref p0, .ref v1])) zq_23 zo_23 (by with_unfolding_all rfl) ?_
  replace hf := zf_be hf
  obtain ⟨v2, hv, hf⟩ := hf
  refine zv_gf zq_23 zo_23 rfl rfl rfl (zf_Ae hv) ?_
  replace hf := zf_be hf
  obtain ⟨v3, hv, hf⟩ := hf
  refine zv_gf zq_23 zo_23 rfl rfl rfl (zf_Ie hv) ?_
  replace hf := zf_be hf
  obtain ⟨_, ho, hf⟩ := hf
  replace hf := zf_b2e hf
  obtain ⟨v4, h5, hv, hf⟩ := hf
  refine zv_c zq_23 zo_23 rfl rfl rfl rfl rfl (zv_cv rfl rfl rfl (zf_ise ho) rfl) (t_f_History_makeNextFrom _ _ _ _ _ hv) ?_
  refine zv_p (k := 2) (f' := (16, [(0, .ref p0), (1, .int p1)], [.int p1, .ref p0])) zq_23 zo_23 (by with_unfolding_all rfl) ?_
  replace hf := zf_be hf
  obtain ⟨_, ho, hf⟩ := hf
  replace hf := zf_b3e hf
  obtain ⟨v6, h7, hv, hf⟩ | ⟨E8, h7, hv, hf⟩ := hf
  rotate_left
  · cases hf; exact zv_cx zq_23 zo_23 rfl rfl rfl rfl rfl (zv_cv rfl rfl rfl (zf_ise ho) rfl) (t_f_ColumnVault_sheetOf _ _ _ _ _ hv) rfl
  refine zv_c zq_23 zo_23 rfl rfl rfl rfl rfl (zv_cv rfl rfl rfl (zf_ise ho) rfl) (t_f_ColumnVault_sheetOf _ _ _ _ _ hv) ?_
  cases hf
  exact zv_r zq_23 zo_23 rfl rfl rfl rfl rfl
/-! ColumnVault$Sheet.hasColumn (I)Z -/
noncomputable def zI_28 : zd_T := [[(0, .iload_n 1, 1), (1, .ifCond .lt 15, 3), (4, .iload_n 1, 1), (5, .aload_n 0, 1), (6, .getfield 22, 3), (9, .if_icmp .ge 7, 3), (12, .iconst 1, 1), (13, .goto 4, 3), (16, .iconst 0, 1), (17, .ireturn, 1)]]
theorem zo_28 : zd_of 28 = some zI_28 := rfl
set_option maxRecDepth 100000 in
theorem zq_28 : zt_m[28]? = some (⟨"ColumnVault$Sheet", "hasColumn", "(I)Z"⟩, prog_10_method_3_code, 2, some (.boolean), [], 10, 1, 0, 0, 0, 0) := rfl
set_option maxHeartbeats 1000000 in
def f_Sheet_hasColumn (p0 : Nat) (p1 : Int32) (h : zx_H) : Option (Int32 × zx_H) :=
  if p1 < 0 then
    some ((0 : Int32), h)
  else
    zf_b (zf_I 10 3 p0 h) fun v1 =>
    if v1 ≤ p1 then
      some ((0 : Int32), h)
    else
      some ((1 : Int32), h)
set_option maxHeartbeats 4000000 in
set_option maxRecDepth 400000 in
theorem t_f_Sheet_hasColumn {sc : (Nat × (Nat → Int32)) × Bool} {d : Nat} (p0 : Nat) (p1 : Int32) (h : zx_H) (r : Int32) (h' : zx_H) (hf : f_Sheet_hasColumn p0 p1 h = some (r, h')) : zx_T sc d 28 (0, [(0, .ref p0), (1, .int p1)], []) h (zf_oI r) h' := by
  unfold f_Sheet_hasColumn at hf
  refine zv_p (k := 1) (f' := (1, [(0, .ref p0), (1, .int p1)], [.int p1])) zq_28 zo_28 (by with_unfolding_all rfl) ?_
  replace hf := zf_ite hf
  obtain ⟨hc, hf⟩ | ⟨hc, hf⟩ := hf
  · refine zv_brT (off := 15) (tt := 16) (r := []) zq_28 zo_28 hc rfl rfl rfl ?_
    refine zv_p (k := 1) (f' := (17, [(0, .ref p0), (1, .int p1)], [.int (0 : Int32)])) zq_28 zo_28 (by with_unfolding_all rfl) ?_
    cases hf
    exact zv_rn zq_28 zo_28 rfl rfl
  · refine zv_brF (off := 15) (tt := 16) (r := []) zq_28 zo_28 hc rfl rfl rfl ?_
    refine zv_p (k := 2) (f' := (6, [(0, .ref p0), (1, .int p1)], [.ref p0, .int p1])) zq_28 zo_28 (by with_unfolding_all rfl) ?_
    replace hf := zf_be hf
    obtain ⟨v1, hv, hf⟩ := hf
    refine zv_gf zq_28 zo_28 rfl rfl rfl (zf_Ie hv) ?_
    replace hf := zf_ite hf
    obtain ⟨hc, hf⟩ | ⟨hc, hf⟩ := hf
    · refine zv_brT (off := 7) (tt := 16) (r := []) zq_28 zo_28 hc rfl rfl rfl ?_
      refine zv_p (k := 1) (f' := (17, [(0, .ref p0), (1, .int p1)], [.int (0 : Int32)])) zq_28 zo_28 (by with_unfolding_all rfl) ?_
      cases hf
      exact zv_rn zq_28 zo_28 rfl rfl
    · refine zv_brF (off := 7) (tt := 16) (r := []) zq_28 zo_28 hc rfl rfl rfl ?_
      refine zv_p (k := 2) (f' := (17, [(0, .ref p0), (1, .int p1)], [.int (1 : Int32)])) zq_28 zo_28 (by with_unfolding_all rfl) ?_
      cases hf
      exact zv_rn zq_28 zo_28 rfl rfl
/-! ColumnVault$Sheet.hasRow (I)Z -/
noncomputable def zI_29 : zd_T := [[(0, .iload_n 1, 1), (1, .ifCond .lt 15, 3), (4, .iload_n 1, 1), (5, .aload_n 0, 1), (6, .getfield 26, 3), (9, .if_icmp .ge 7, 3), (12, .iconst 1, 1), (13, .goto 4, 3), (16, .iconst 0, 1), (17, .ireturn, 1)]]
theorem zo_29 : zd_of 29 = some zI_29 := rfl
set_option maxRecDepth 100000 in
theorem zq_29 : zt_m[29]? = some (⟨"ColumnVault$Sheet", "hasRow", "(I)Z"⟩, prog_10_method_4_code, 2, some (.boolean), [], 10, 1, 0, 0, 0, 0) := rfl
set_option maxHeartbeats 1000000 in
def f_Sheet_hasRow (p0 : Nat) (p1 : Int32) (h : zx_H) : Option (Int32 × zx_H) :=
  if p1 < 0 then
    some ((0 : Int32), h)
  else
    zf_b (zf_I 10 4 p0 h) fun v1 =>
    if v1 ≤ p1 then
      some ((0 : Int32), h)
    else
      some ((1 : Int32), h)
set_option maxHeartbeats 4000000 in
set_option maxRecDepth 400000 in
theorem t_f_Sheet_hasRow {sc : (Nat × (Nat → Int32)) × Bool} {d : Nat} (p0 : Nat) (p1 : Int32) (h : zx_H) (r : Int32) (h' : zx_H) (hf : f_Sheet_hasRow p0 p1 h = some (r, h')) : zx_T sc d 29 (0, [(0, .ref p0), (1, .int p1)], []) h (zf_oI r) h' := by
  unfold f_Sheet_hasRow at hf
  refine zv_p (k := 1) (f' := (1, [(0, .ref p0), (1, .int p1)], [.int p1])) zq_29 zo_29 (by with_unfolding_all rfl) ?_
  replace hf := zf_ite hf
  obtain ⟨hc, hf⟩ | ⟨hc, hf⟩ := hf
  · refine zv_brT (off := 15) (tt := 16) (r := []) zq_29 zo_29 hc rfl rfl rfl ?_
    refine zv_p (k := 1) (f' := (17, [(0, .ref p0), (1, .int p1)], [.int (0 : Int32)])) zq_29 zo_29 (by with_unfolding_all rfl) ?_
    cases hf
    exact zv_rn zq_29 zo_29 rfl rfl
  · refine zv_brF (off := 15) (tt := 16) (r := []) zq_29 zo_29 hc rfl rfl rfl ?_
    refine zv_p (k := 2) (f' := (6, [(0, .ref p0), (1, .int p1)], [.ref p0, .int p1])) zq_29 zo_29 (by with_unfolding_all rfl) ?_
    replace hf := zf_be hf
    obtain ⟨v1, hv, hf⟩ := hf
    refine zv_gf zq_29 zo_29 rfl rfl rfl (zf_Ie hv) ?_
    replace hf := zf_ite hf
    obtain ⟨hc, hf⟩ | ⟨hc, hf⟩ := hf
    · refine zv_brT (off := 7) (tt := 16) (r := []) zq_29 zo_29 hc rfl rfl rfl ?_
      refine zv_p (k := 1) (f' := (17, [(0, .ref p0), (1, .int p1)], [.int (0 : Int32)])) zq_29 zo_29 (by with_unfolding_all rfl) ?_
      cases hf
      exact zv_rn zq_29 zo_29 rfl rfl
    · refine zv_brF (off := 7) (tt := 16) (r := []) zq_29 zo_29 hc rfl rfl rfl ?_
      refine zv_p (k := 2) (f' := (17, [(0, .ref p0), (1, .int p1)], [.int (1 : Int32)])) zq_29 zo_29 (by with_unfolding_all rfl) ?_
      cases hf
      exact zv_rn zq_29 zo_29 rfl rfl
/-! ColumnVault$Sheet.putKey (IIJ)V -/
noncomputable def zI_27 : zd_T := [[(0, .aload_n 0, 1), (1, .iload_n 1, 1), (2, .invokevirtual 43, 3), (5, .ifCond .eq 23, 3), (8, .aload_n 0, 1), (9, .iload_n 2, 1), (10, .invokevirtual 49, 3), (13, .ifCond .eq 15, 3), (16, .aload_n 0, 1), (17, .getfield 15, 3), (20, .iload_n 1, 1), (21, .bipush 40, 2), (23, .imul, 1), (24, .iload_n 2, 1), (25, .iadd, 1), (26, .lload_n 3, 1), (27, .lastore, 1), (28, .return_, 1)]]
theorem zo_27 : zd_of 27 = some zI_27 := rfl
set_option maxRecDepth 100000 in
theorem zq_27 : zt_m[27]? = some (⟨"ColumnVault$Sheet", "putKey", "(IIJ)V"⟩, prog_10_method_8_code, 5, none, [], 10, 3, 0, 0, 0, 0) := rfl
set_option maxHeartbeats 1000000 in
def f_Sheet_putKey (p0 : Nat) (p1 : Int32) (p2 : Int32) (p3 : Int64) (h : zx_H) : Option (Unit × zx_H) :=
  zf_b (zf_is 10 p0 h) fun _ =>
  zf_b2 (f_Sheet_hasColumn p0 p1 h) fun v1 h2 =>
  if v1 = 0 then
    some ((), h2)
  else
    zf_b (zf_is 10 p0 h2) fun _ =>
    zf_b2 (f_Sheet_hasRow p0 p2 h2) fun v3 h4 =>
    if v3 = 0 then
      some ((), h4)
    else
      zf_b (zf_A 10 1 p0 h4) fun v5 =>
      zf_b (zf_stJ v5 ((p1 * (40 : Int32)) + p2) p3 h4) fun h6 =>
      some ((), h6)
set_option maxHeartbeats 4000000 in
set_option maxRecDepth 400000 in
theorem t_f_Sheet_putKey {sc : (Nat × (Nat → Int32)) × Bool} {d : Nat} (p0 : Nat) (p1 : Int32) (p2 : Int32) (p3 : Int64) (h : zx_H) (r : Unit) (h' : zx_H) (hf : f_Sheet_putKey p0 p1 p2 p3 h = some (r, h')) : zx_T sc (d + 1) 27 (0, [(0, .ref p0), (1, .int p1), (2, .int p2), (3, .long p3)], []) h (zf_oV r) h' := by
  unfold f_Sheet_putKey at hf
  refine zv_p (k := 2) (f' := (2, [(0, .ref p0), (1, .int p1), (2, .int p2), (3, .long p3)], [.int p1, .ref p0])) zq_27 zo_27 (by with_unfolding_all rfl) ?_
  replace hf := zf_be hf
  obtain ⟨_, ho, hf⟩ := hf
  replace hf := zf_b2e hf
  obtain ⟨v1, h2, hv, hf⟩ := hf
  refine zv_c zq_27 zo_27 rfl rfl rfl rfl rfl (zv_cv rfl rfl rfl (zf_ise ho) rfl) (t_f_Sheet_hasColumn _ _ _ _ _ hv) ?_
  replace hf := zf_ite hf
  obtain ⟨hc, hf⟩ | ⟨hc, hf⟩ := hf
  · refine zv_brT (off := 23) (tt := 28) (r := []) zq_27 zo_27 hc rfl rfl rfl ?_
    cases hf
    exact zv_r zq_27 zo_27 rfl rfl rfl rfl rfl
  · refine zv_brF (off := 23) (tt := 28) (r := []) zq_27 zo_27 hc rfl rfl rfl ?_
    refine zv_p (k := 2) (f' := (10, [(0, .ref p0), (1, .int p1), (2, .int p2), (3, .long p3)], [.int p2, .ref p0])) zq_27 zo_27 (by with_unfolding_all rfl) ?_
    replace hf := zf_be hf
    obtain ⟨_, ho, hf⟩ := hf
    replace hf := zf_b2e hf
    obtain ⟨v3, h4, hv, hf⟩ := hf
    refine zv_c zq_27 zo_27 rfl rfl rfl rfl rfl (zv_cv rfl rfl rfl (zf_ise ho) rfl) (t_f_Sheet_hasRow _ _ _ _ _ hv) ?_
    replace hf := zf_ite hf
    obtain ⟨hc, hf⟩ | ⟨hc, hf⟩ := hf
    · refine zv_brT (off := 15) (tt := 28) (r := []) zq_27 zo_27 hc rfl rfl rfl ?_
      cases hf
      exact zv_r zq_27 zo_27 rfl rfl rfl rfl rfl
    · refine zv_brF (off := 15) (tt := 28) (r := []) zq_27 zo_27 hc rfl rfl rfl ?_
      refine zv_p (k := 1) (f' := (17, [(0, .ref p0), (1, .int p1), (2, .int p2), (3, .long p3)], [.ref p0])) zq_27 zo_27 (by with_unfolding_all rfl) ?_
      replace hf := zf_be hf
      obtain ⟨v5, hv, hf⟩ := hf
      refine zv_gf zq_27 zo_27 rfl rfl rfl (zf_Ae hv) ?_
      refine zv_p (k := 6) (f' := (27, [(0, .ref p0), (1, .int p1), (2, .int p2), (3, .long p3)], [.long p3, .int ((p1 * (40 : Int32)) + p2), .ref v5])) zq_27 zo_27 (by with_unfolding_all rfl) ?_
      replace hf := zf_be hf
      obtain ⟨h6, hv, hf⟩ := hf
      refine zv_stJ zq_27 zo_27 rfl hv ?_
      cases hf
      exact zv_r zq_27 zo_27 rfl rfl rfl rfl rfl
/-! ColumnVault$Sheet.appendColumn (I)I -/
noncomputable def zI_26 : zd_T := [[(0, .aload_n 0, 1), (1, .getfield 22, 3), (4, .iconst 4, 1), (5, .if_icmp .lt 5, 3), (8, .iconst (-1), 1), (9, .ireturn, 1), (10, .aload_n 0, 1), (11, .getfield 22, 3), (14, .istore_n 2, 1), (15, .aload_n 0, 1), (16, .getfield 9, 3), (19, .iload_n 2, 1), (20, .iload_n 1, 1), (21, .iastore, 1), (22, .aload_n 0, 1), (23, .dup, 1), (24, .getfield 22, 3), (27, .iconst 1, 1), (28, .iadd, 1), (29, .putfield 22, 3)], [(32, .iconst 0, 1), (33, .istore_n 3, 1), (34, .iload_n 3, 1), (35, .aload_n 0, 1), (36, .getfield 26, 3), (39, .if_icmp .ge 18, 3), (42, .aload_n 0, 1), (43, .iload_n 2, 1), (44, .iload_n 3, 1), (45, .ldc2_w 47, 3), (48, .invokevirtual 69, 3), (51, .iinc 3 1, 3), (54, .goto (-20), 3), (57, .iload_n 2, 1), (58, .ireturn, 1)]]
theorem zo_26 : zd_of 26 = some zI_26 := rfl
set_option maxRecDepth 100000 in
theorem zq_26 : zt_m[26]? = some (⟨"ColumnVault$Sheet", "appendColumn", "(I)I"⟩, prog_10_method_11_code, 4, some (.int), [], 10, 1, 0, 0, 0, 0) := rfl
set_option maxHeartbeats 1000000 in
def f_Sheet_appendColumn_34 : Nat → Nat → Int32 → Int32 → zx_H → Option (Int32 × zx_H)
  | 0, _, _, _, _ => none
  | n + 1, p0, p1, p2, h =>
    zf_b (zf_I 10 4 p0 h) fun v1 =>
    if v1 ≤ p2 then
      some (p1, h)
    else
      zf_b (zf_is 10 p0 h) fun _ =>
      zf_b2 (f_Sheet_putKey p0 p1 p2 (-9000000000 : Int64) h) fun _ h3 =>
      (f_Sheet_appendColumn_34 n) p0 p1 (p2 + (1 : Int32)) h3
set_option maxHeartbeats 4000000 in
set_option maxRecDepth 400000 in
theorem t_f_Sheet_appendColumn_34 {sc : (Nat × (Nat → Int32)) × Bool} {d : Nat} : ∀ (n : Nat) (p0 : Nat) (p1 : Int32) (p2 : Int32) (h : zx_H) (r : Int32) (h' : zx_H), f_Sheet_appendColumn_34 n p0 p1 p2 h = some (r, h') → zx_T sc (d + 2) 26 (34, [(0, .ref p0), (2, .int p1), (3, .int p2)], []) h (zf_oI r) h' := by
  intro n
  induction n with
  | zero => intro p0 p1 p2 h r h' hf; cases hf
  | succ n ih =>
    intro p0 p1 p2 h r h' hf
    unfold f_Sheet_appendColumn_34 at hf
    refine zv_p (k := 2) (f' := (36, [(0, .ref p0), (2, .int p1), (3, .int p2)], [.ref p0, .int p2])) zq_26 zo_26 (by with_unfolding_all rfl) ?_
    replace hf := zf_be hf
    obtain ⟨v1, hv, hf⟩ := hf
    refine zv_gf zq_26 zo_26 rfl rfl rfl (zf_Ie hv) ?_
    replace hf := zf_ite hf
    obtain ⟨hc, hf⟩ | ⟨hc, hf⟩ := hf
    · refine zv_brT (off := 18) (tt := 57) (r := []) zq_26 zo_26 hc rfl rfl rfl ?_
      refine zv_p (k := 1) (f' := (58, [(0, .ref p0), (2, .int p1), (3, .int p2)], [.int p1])) zq_26 zo_26 (by with_unfolding_all rfl) ?_
      cases hf
      exact zv_rn zq_26 zo_26 rfl rfl
    · refine zv_brF (off := 18) (tt := 57) (r := []) zq_26 zo_26 hc rfl rfl rfl ?_
      refine zv_p (k := 3) (f' := (45, [(0, .ref p0), (2, .int p1), (3, .int p2)], [.int p2, .int p1, .ref p0])) zq_26 zo_26 (by with_unfolding_all rfl) ?_
      refine zv_lng zq_26 zo_26 rfl rfl ?_
      replace hf := zf_be hf
      obtain ⟨_, ho, hf⟩ := hf
      replace hf := zf_b2e hf
      obtain ⟨v2, h3, hv, hf⟩ := hf
      refine zv_c zq_26 zo_26 rfl rfl rfl rfl rfl (zv_cv rfl rfl rfl (zf_ise ho) rfl) (t_f_Sheet_putKey _ _ _ _ _ _ _ hv) ?_
      refine zv_p (k := 2) (f' := (34, [(3, .int (p2 + (1 : Int32))), (0, .ref p0), (2, .int p1)], [])) zq_26 zo_26 (by with_unfolding_all rfl) ?_
      refine zv_pick (lv' := [(0, .ref p0), (2, .int p1), (3, .int (p2 + (1 : Int32)))]) [0, 2, 3] rfl rfl ?_
      exact ih _ _ _ _ _ _ hf
set_option maxHeartbeats 1000000 in
def f_Sheet_appendColumn (p0 : Nat) (p1 : Int32) (h : zx_H) : Option (Int32 × zx_H) :=
  zf_b (zf_I 10 3 p0 h) fun v1 =>
  if v1 < (4 : Int32) then
    zf_b (zf_I 10 3 p0 h) fun v2 =>
    zf_b (zf_A 10 0 p0 h) fun v3 =>
    zf_b (zf_stI v3 v2 p1 h) fun h4 =>
    zf_b (zf_I 10 3 p0 h4) fun v5 =>
    zf_b (zf_put 10 3 p0 (.int (v5 + (1 : Int32))) h4) fun h6 =>
    f_Sheet_appendColumn_34 zF p0 v2 (0 : Int32) h6
  else
    some ((-1 : Int32), h)
set_option maxHeartbeats 4000000 in
set_option maxRecDepth 400000 in
theorem t_f_Sheet_appendColumn {sc : (Nat × (Nat → Int32)) × Bool} {d : Nat} (p0 : Nat) (p1 : Int32) (h : zx_H) (r : Int32) (h' : zx_H) (hf : f_Sheet_appendColumn p0 p1 h = some (r, h')) : zx_T sc (d + 2) 26 (0, [(0, .ref p0), (1, .int p1)], []) h (zf_oI r) h' := by
  unfold f_Sheet_appendColumn at hf
  refine zv_p (k := 1) (f' := (1, [(0, .ref p0), (1, .int p1)], [.ref p0])) zq_26 zo_26 (by with_unfolding_all rfl) ?_
  replace hf := zf_be hf
  obtain ⟨v1, hv, hf⟩ := hf
  refine zv_gf zq_26 zo_26 rfl rfl rfl (zf_Ie hv) ?_
  refine zv_p (k := 1) (f' := (5, [(0, .ref p0), (1, .int p1)], [.int (4 : Int32), .int v1])) zq_26 zo_26 (by with_unfolding_all rfl) ?_
  replace hf := zf_ite hf
  obtain ⟨hc, hf⟩ | ⟨hc, hf⟩ := hf
  · refine zv_brT (off := 5) (tt := 10) (r := []) zq_26 zo_26 hc rfl rfl rfl ?_
    refine zv_p (k := 1) (f' := (11, [(0, .ref p0), (1, .int p1)], [.ref p0])) zq_26 zo_26 (by with_unfolding_all rfl) ?_
    replace hf := zf_be hf
    obtain ⟨v2, hv, hf⟩ := hf
    refine zv_gf zq_26 zo_26 rfl rfl rfl (zf_Ie hv) ?_
    refine zv_p (k := 2) (f' := (16, [(2, .int v2), (0, .ref p0), (1, .int p1)], [.ref p0])) zq_26 zo_26 (by with_unfolding_all rfl) ?_
    replace hf := zf_be hf
    obtain ⟨v3, hv, hf⟩ := hf
    refine zv_gf zq_26 zo_26 rfl rfl rfl (zf_Ae hv) ?_
    refine zv_p (k := 2) (f' := (21, [(2, .int v2), (0, .ref p0), (1, .int p1)], [.int p1, .int v2, .ref v3])) zq_26 zo_26 (by with_unfolding_all rfl) ?_
    replace hf := zf_be hf
    obtain ⟨h4, hv, hf⟩ := hf
    refine zv_stI zq_26 zo_26 rfl hv ?_
    refine zv_p (k := 2) (f' := (24, [(2, .int v2), (0, .ref p0), (1, .int p1)], [.ref p0, .ref p0])) zq_26 zo_26 (by with_unfolding_all rfl) ?_
    replace hf := zf_be hf
    obtain ⟨v5, hv, hf⟩ := hf
    refine zv_gf zq_26 zo_26 rfl rfl rfl (zf_Ie hv) ?_
    refine zv_p (k := 2) (f' := (29, [(2, .int v2), (0, .ref p0), (1, .int p1)], [.int (v5 + (1 : Int32)), .ref p0])) zq_26 zo_26 (by with_unfolding_all rfl) ?_
    replace hf := zf_be hf
    obtain ⟨h6, hv, hf⟩ := hf
    refine zv_pf zq_26 zo_26 rfl rfl rfl rfl hv ?_
    refine zv_p (k := 2) (f' := (34, [(3, .int (0 : Int32)), (2, .int v2), (0, .ref p0), (1, .int p1)], [])) zq_26 zo_26 (by with_unfolding_all rfl) ?_
    refine zv_pick (lv' := [(0, .ref p0), (2, .int v2), (3, .int (0 : Int32))]) [0, 2, 3] rfl rfl ?_
    exact t_f_Sheet_appendColumn_34 zF _ _ _ _ _ _ hf
  · refine zv_brF (off := 5) (tt := 10) (r := []) zq_26 zo_26 hc rfl rfl rfl ?_
    refine zv_p (k := 1) (f' := (9, [(0, .ref p0), (1, .int p1)], [.int (-1 : Int32)])) zq_26 zo_26 (by with_unfolding_all rfl) ?_
    cases hf
    exact zv_rn zq_26 zo_26 rfl rfl
/-! ColumnVault.addColumn (II)I -/
noncomputable def zI_22 : zd_T := [[(0, .aload_n 0, 1), (1, .iload_n 1, 1), (2, .invokevirtual 53, 3), (5, .astore_n 3, 1), (6, .iload_n 2, 1), (7, .ifCond .eq 18, 3), (10, .iload_n 2, 1), (11, .iconst 1, 1), (12, .if_icmp .eq 13, 3), (15, .new 57, 3), (18, .dup, 1), (19, .ldc 59, 2), (21, .invokespecial 61, 3), (24, .athrow, 1), (25, .aload_n 3, 1), (26, .getfield 64, 3), (29, .iconst 4, 1), (30, .if_icmp .lt 13, 3)], [(33, .new 70, 3), (36, .dup, 1), (37, .ldc 72, 2), (39, .invokespecial 74, 3), (42, .athrow, 1), (43, .aload_n 0, 1), (44, .iload_n 1, 1), (45, .invokevirtual 75, 3), (48, .iload_n 2, 1), (49, .invokevirtual 78, 3), (52, .ireturn, 1)]]
theorem zo_22 : zd_of 22 = some zI_22 := rfl
set_option maxRecDepth 100000 in
theorem zq_22 : zt_m[22]? = some (⟨"ColumnVault", "addColumn", "(II)I"⟩, prog_1_method_2_code, 4, some (.int), [], 12, 2, 0, 0, 0, 0) := rfl
set_option maxHeartbeats 1000000 in
def f_ColumnVault_addColumn_25 (p0 : Nat) (p1 : Int32) (p2 : Int32) (p3 : Nat) (h : zx_H) : Option ((Int32 ⊕ Nat) × zx_H) :=
  zf_b (zf_I 10 3 p3 h) fun v1 =>
  if v1 < (4 : Int32) then
    zf_b (zf_is 12 p0 h) fun _ =>
    zf_b3 (f_ColumnVault_nextSheetOf p0 p1 h) fun v2 h3 =>
    zf_b (zf_is 10 v2 h3) fun _ =>
    zf_b2 (f_Sheet_appendColumn v2 p2 h3) fun v5 h6 =>
    some (.inl v5, h6)
  else
    if h.length < zx_lim then some (.inr 15, h ++ [.inr (15, [])]) else none
set_option maxHeartbeats 4000000 in
set_option maxRecDepth 400000 in
theorem t_f_ColumnVault_addColumn_25 {sc : (Nat × (Nat → Int32)) × Bool} {d : Nat} (p0 : Nat) (p1 : Int32) (p2 : Int32) (p3 : Nat) (h : zx_H) (r : (Int32 ⊕ Nat)) (h' : zx_H) (hf : f_ColumnVault_addColumn_25 p0 p1 p2 p3 h = some (r, h')) : zx_T sc (d + 3) 22 (25, [(0, .ref p0), (1, .int p1), (2, .int p2), (3, .ref p3)], []) h (zf_oIx r) h' := by
  unfold f_ColumnVault_addColumn_25 at hf
  refine zv_p (k := 1) (f' := (26, [(0, .ref p0), (1, .int p1), (2, .int p2), (3, .ref p3)], [.ref p3])) zq_22 zo_22 (by with_unfolding_all rfl) ?_
  replace hf := zf_be hf
  obtain ⟨v1, hv, hf⟩ := hf
  refine zv_gf zq_22 zo_22 rfl rfl rfl (zf_Ie hv) ?_
  refine zv_p (k := 1) (f' := (30, [(0, .ref p0), (1, .int p1), (2, .int p2), (3, .ref p3)], [.int (4 : Int32), .int v1])) zq_22 zo_22 (by with_unfolding_all rfl) ?_
  replace hf := zf_ite hf
  obtain ⟨hc, hf⟩ | ⟨hc, hf⟩ := hf
  · refine zv_brT (off := 13) (tt := 43) (r := []) zq_22 zo_22 hc rfl rfl rfl ?_
    refine zv_p (k := 2) (f' := (45, [(0, .ref p0), (1, .int p1), (2, .int p2), (3, .ref p3)], [.int p1, .ref p0])) zq_22 zo_22 (by with_unfolding_all rfl) ?_
    replace hf := zf_be hf
    obtain ⟨_, ho, hf⟩ := hf
    replace hf := zf_b3e hf
    obtain ⟨v2, h3, hv, hf⟩ | ⟨E4, h3, hv, hf⟩ := hf
    rotate_left
    · cases hf; exact zv_cx zq_22 zo_22 rfl rfl rfl rfl rfl (zv_cv rfl rfl rfl (zf_ise ho) rfl) (t_f_ColumnVault_nextSheetOf _ _ _ _ _ hv) rfl
    refine zv_c zq_22 zo_22 rfl rfl rfl rfl rfl (zv_cv rfl rfl rfl (zf_ise ho) rfl) (t_f_ColumnVault_nextSheetOf _ _ _ _ _ hv) ?_
    refine zv_p (k := 1) (f' := (49, [(0, .ref p0), (1, .int p1), (2, .int p2), (3, .ref p3)], [.int p2, .ref v2])) zq_22 zo_22 (by with_unfolding_all rfl) ?_
    replace hf := zf_be hf
    obtain ⟨_, ho, hf⟩ := hf
    replace hf := zf_b2e hf
    obtain ⟨v5, h6, hv, hf⟩ := hf
    refine zv_c zq_22 zo_22 rfl rfl rfl rfl rfl (zv_cv rfl rfl rfl (zf_ise ho) rfl) (t_f_Sheet_appendColumn _ _ _ _ _ hv) ?_
    cases hf
    exact zv_rn zq_22 zo_22 rfl rfl
  · refine zv_brF (off := 13) (tt := 43) (r := []) zq_22 zo_22 hc rfl rfl rfl ?_
    replace hf := zf_ite hf
    obtain ⟨hc, hf⟩ | ⟨hc, hf⟩ := hf
    · cases hf; exact zv_t zq_22 zo_22 rfl rfl rfl rfl rfl rfl rfl rfl rfl hc
    · cases hf
