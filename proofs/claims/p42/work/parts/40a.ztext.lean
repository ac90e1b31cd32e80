/-! ===== draws, letters, texts ===== -/
section ZTX
variable {h g j : zx_H} {k k' : Nat}
def zR (h : zx_H) : Prop := ∃ f, h[0]? = some (.inl (1, 2, .inl f))
theorem zR.G {a b : Nat} (r : zR h) (x : zG k a b h g) (hd : 1 ≤ a ∨ b = 0) : zR g := by
  obtain ⟨f, e⟩ := r
  exact ⟨f, x.gt e (by omega)⟩
theorem zdr_l {f : Nat → Int32} (e : h[0]? = some (.inl (1, 2, .inl f))) : zf_ldI 0 (0 : Int32) h = some (f 0) ∧ zf_ldI 0 (1 : Int32) h = some (f 1) := by
  have hne : (0 : Nat) ≠ zx_lim := zq_ne (by decide)
  have a := zh_ldI (j := 0) hne e (by decide) (by decide)
  have b := zh_ldI (j := 1) hne e (by decide) (by decide)
  rw [nI_0] at a
  exact ⟨a, b⟩
theorem zdr_s {f : Nat → Int32} (e : h[0]? = some (.inl (1, 2, .inl f))) {j : Nat} (hj : j < 2) (x : Int32) : ∃ g, zf_stI 0 (nI j) x h = some g ∧ (∃ f', g[0]? = some (.inl (1, 2, .inl f'))) ∧ zU 0 1 h g := by
  refine ⟨_, zh_stI (j := j) e hj (by decide), ⟨_, zh_set_s e⟩, ?_⟩
  exact zU_s e rfl (by omega)
theorem zdr_s0 {f : Nat → Int32} (e : h[0]? = some (.inl (1, 2, .inl f))) (x : Int32) : ∃ g, zf_stI 0 (0 : Int32) x h = some g ∧ (∃ f', g[0]? = some (.inl (1, 2, .inl f'))) ∧ zU 0 1 h g := by
  have a := zdr_s e (j := 0) (by decide) x
  rw [nI_0] at a
  exact a
theorem zdr_s1 {f : Nat → Int32} (e : h[0]? = some (.inl (1, 2, .inl f))) (x : Int32) : ∃ g, zf_stI 0 (1 : Int32) x h = some g ∧ (∃ f', g[0]? = some (.inl (1, 2, .inl f'))) ∧ zU 0 1 h g := zdr_s e (j := 1) (by decide) x
theorem zdr_v (y : Int32) {n : Nat} (h0 : 0 < n) (hn : n < 2 ^ 30) : ∃ v, v < n ∧ (y.toUInt32 >>> (((4 : Int32)).toUInt32 &&& Int32.toUInt32 31)).toInt32 - (y.toUInt32 >>> (((4 : Int32)).toUInt32 &&& Int32.toUInt32 31)).toInt32 / nI n * nI n = nI v := by
  obtain ⟨x, hx, ex⟩ := wb_of32 y
  have e9 : ((nI x).toUInt32 >>> (((4 : Int32)).toUInt32 &&& Int32.toUInt32 31)).toInt32 = nI (x / 2 ^ 4) := pk_ushrN hx 4 4 (by decide)
  rw [ex, e9, pk_rem (by omega) h0 (by omega)]
  exact ⟨x / 2 ^ 4 % n, Nat.mod_lt _ h0, rfl⟩
theorem zdraw (r : zR h) {n : Nat} (h0 : 0 < n) (hn : n < 2 ^ 30) : ∃ v g, v < n ∧ f_ColumnVaultLaw_draw 0 (nI n) h = some (nI v, g) ∧ zR g ∧ zG 0 0 1 h g ∧ g.length = h.length := by
  obtain ⟨f, e⟩ := r
  obtain ⟨l0, _⟩ := zdr_l e
  obtain ⟨g1, t1, ⟨f1, e1⟩, u1⟩ := zdr_s0 e ((f 0 * (1103515245 : Int32)) + (12345 : Int32))
  obtain ⟨m0, m1⟩ := zdr_l e1
  obtain ⟨g2, t2, ⟨f2, e2⟩, u2⟩ := zdr_s1 e1 (((f1 1 ^^^ ((f1 0).toUInt32 >>> (((9 : Int32)).toUInt32 &&& Int32.toUInt32 31)).toInt32) * (69069 : Int32)) + (1 : Int32))
  obtain ⟨_, k1⟩ := zdr_l e2
  obtain ⟨v, hv, ev⟩ := zdr_v (f2 1 ^^^ ((f2 1).toUInt32 >>> (((16 : Int32)).toUInt32 &&& Int32.toUInt32 31)).toInt32) h0 hn
  have u := zU_t u1 u2
  refine ⟨v, g2, hv, ?_, ⟨f2, e2⟩, zG_U u (Nat.le_refl _) (Nat.le_refl _), u.1⟩
  unfold f_ColumnVaultLaw_draw
  rw [ze_b l0, ze_b t1, ze_b m1, ze_b m0, ze_b t2, ze_b k1, ze_b k1, if_neg (nI_ne0 h0 (by omega)), ev]
/-- letters from the left -/
def zltr : Nat → Nat → List Nat
  | 0, _ => []
  | m + 1, v => zltr m (v / 256) ++ [v % 256]
theorem zltr_len : ∀ m v, (zltr m v).length = m
  | 0, _ => rfl
  | m + 1, v => by
    show (zltr m (v / 256) ++ [v % 256]).length = _
    rw [List.length_append, zltr_len m]; rfl
theorem zltr_c : ∀ {m v : Nat}, zwd m v → ∀ c ∈ zltr m v, 97 ≤ c ∧ c ≤ 122
  | 0, _, _, c, hc => absurd hc List.not_mem_nil
  | m + 1, v, h, c, hc => by
    rcases List.mem_append.mp hc with x | x
    · exact zltr_c h.2 c x
    · rw [List.mem_singleton.mp x]; exact h.1
theorem zltr_add {m v c : Nat} (hc : c < 256) : zltr (m + 1) (256 * v + c) = zltr m v ++ [c] := by
  show zltr m ((256 * v + c) / 256) ++ [(256 * v + c) % 256] = _
  rw [show (256 * v + c) / 256 = v by omega, show (256 * v + c) % 256 = c by omega]
theorem zwd_add {m v c : Nat} (h : zwd m v) (h1 : 97 ≤ c) (h2 : c ≤ 122) : zwd (m + 1) (256 * v + c) := by
  refine ⟨by omega, ?_⟩
  rw [show (256 * v + c) / 256 = v by omega]
  exact h
theorem zltr_get : ∀ {m v j : Nat}, j < m → (zltr m v).getD j 0 = zwc m v j
  | 0, _, _, hj => absurd hj (Nat.not_lt_zero _)
  | m + 1, v, j, hj => by
    show (zltr m (v / 256) ++ [v % 256]).getD j 0 = _
    rcases Nat.lt_or_ge j m with c | c
    · rw [zgdA1 (zltr m (v / 256)) [v % 256] j (by rw [zltr_len]; exact c), zltr_get c]
      unfold zwc
      rw [show m + 1 - 1 - j = (m - 1 - j) + 1 from by omega, Nat.pow_succ, Nat.mul_comm, ← Nat.div_div_eq_div_mul]
    · have : j = m := by omega
      subst this
      have e9 : (zltr j (v / 256) ++ [v % 256]).getD j 0 = v % 256 := by
        have := zgdA2 (d := 0) (zltr j (v / 256)) [v % 256] 0
        rw [zltr_len, Nat.add_zero] at this
        exact this
      refine e9.trans ?_
      unfold zwc
      rw [show j + 1 - 1 - j = 0 by omega, Nat.pow_zero, Nat.div_one]
/-- the builder's text as an object -/
theorem zSB_toS {q a m : Nat} {w : List Nat} (s : zSB h q a m w) (hB : zM h ≤ 7000000) : ∃ g, f_StringBuilder_toString q h = some (h.length, g) ∧ zStr g h.length w ∧ zG (28 + m) 0 0 h g ∧ zSB g q a m w := by
  have hl := zlim (h := h) (by omega)
  have hl' := zlen (h := h) (by omega)
  have f0 := fun (g : zx_H) (s : zSB g q a m w) => zfv0 s
  obtain ⟨ml, f, e1, e2, h1, h2, h3, h4, h5⟩ := s
  have ha := zlt_of e2
  have hq := zlt_of e1
  generalize hg1 : h ++ [.inr (0, zx_def 0)] = g1
  have l1 : g1.length = h.length + 1 := by rw [← hg1, List.length_append]; rfl
  have G1 : zG 16 0 0 h g1 := by rw [← hg1]; exact zG_app (c := .inr (0, zx_def 0))
  have c1 : g1[h.length]? = some (.inr (0, [.null, .int 0, .int 0, .int 0])) := by rw [← hg1, zdef0]; exact zG_end
  have i1 := G1.gt e1 (Or.inr (Nat.zero_le _))
  have i2 := G1.gt e2 (Or.inr (Nat.zero_le _))
  have s1 : zSB g1 q a m w := ⟨ml, f, i1, i2, h1, h2, h3, h4, h5⟩
  have r1 := zh_put (k := 1) (v := .int 0) c1 (by show _ < 4; decide)
  have hset : g1.set h.length (.inr (0, [.null, .int 0, .int 0, .int 0])) = g1 := by
    rw [← hg1, zdef0, zh_as (g := h) (r := []) ]
  have r1 : zf_put 0 1 h.length (.int 0) g1 = some g1 := r1.trans (congrArg some hset)
  have hne : a ≠ zx_lim := by show a ≠ 1000000; omega
  -- the bytes
  have hcp : ∃ g2 f2, f_Arrays_copyOfRange a 0 (nI w.length) g1 = some (g1.length, g2) ∧ g2 = g1 ++ [.inl (3, w.length, .inl f2)] ∧ ∀ i, i < w.length → f2 i = nI (w.getD i 0) := by
    unfold f_Arrays_copyOfRange
    rw [if_neg (fun x => x rfl), ze_b (zh_len hne i2 rfl)]
    by_cases hc : nI w.length = nI m
    · have hwm : w.length = m := (nI_eq (by omega) (by omega)).mp hc
      have hcl : zf_clone a g1 = some (g1.length, g1 ++ [.inl (3, m, .inl f)]) := by
        unfold zf_clone
        rw [i2]
        show (if _ then _ else _) = _
        rw [if_pos ⟨rfl, h3, by rw [l1]; show _ < 1000000; omega⟩]
      rw [if_pos hc, ze_b2 hcl]
      exact ⟨_, f, rfl, by rw [hwm], h4⟩
    · have n1 := zh_newB (h := g1) (n := w.length) (by omega) (by rw [l1]; show _ < 1000000; omega)
      have hwm : w.length < m := by
        rcases Nat.lt_or_ge w.length m with x | x
        · exact x
        · exact absurd (congrArg nI (show w.length = m by omega)) hc
      have G2 : zG (12 + w.length) 0 0 g1 (g1 ++ [.inl (3, w.length, .inl fun _ => 0)]) := zG_app (c := .inl (3, w.length, .inl fun _ => 0))
      have i3 := G2.gt i2 (Or.inr (Nat.zero_le _))
      have i4 : (g1 ++ [(.inl (3, w.length, .inl fun _ => 0) : zx_E)])[g1.length]? = some (.inl (3, w.length, .inl fun _ => 0)) := zG_end
      have hfb : zx_fb f 0 w.length = true := zfb_mk fun i hi => zfb_all h3 (by omega)
      have n2 := zh_cpyB (sp := 0) (dp := 0) i3 i4 hfb (by omega) (by omega) (by omega) (by omega)
      have n2 : zf_cpy a (0 : Int32) g1.length (0 : Int32) (nI w.length) (g1 ++ [.inl (3, w.length, .inl fun _ => 0)]) = _ := n2
      have hset2 : (g1 ++ [(.inl (3, w.length, .inl fun _ => 0) : zx_E)]).set g1.length (.inl (3, w.length, .inl (va_cpy f (fun _ => 0) 0 0 w.length))) = g1 ++ [.inl (3, w.length, .inl (va_cpy f (fun _ => 0) 0 0 w.length))] := zh_as (g := g1) (r := [])
      rw [hset2] at n2
      have z1 : nI w.length - (0 : Int32) = nI w.length := by rw [show (0 : Int32) = nI 0 from rfl, pk_sub (Nat.zero_le _), Nat.sub_zero]
      have z2 : nI m - (0 : Int32) = nI m := by rw [show (0 : Int32) = nI 0 from rfl, pk_sub (Nat.zero_le _), Nat.sub_zero]
      rw [if_neg hc]
      unfold f_Arrays_copyOfRangeByte f_Arrays_checkLength
      refine ⟨_, va_cpy f (fun _ => 0) 0 0 w.length, ?_, rfl, fun i hi => ?_⟩
      · refine ze_b2 (a := g1.length) (g := _) ?_
        rw [if_pos (show (0 : Int32) ≤ nI w.length from nI_pos' (by omega)), ze_b2 rfl, z1, ze_b2 n1, ze_b (zh_len hne i3 rfl), z2, if_pos (nI_lt hwm (by omega)), ze_b n2]
      · rw [pk_cpy_in (Nat.zero_le _) (by omega), show 0 + (i - 0) = i by omega]
        exact h4 i hi
  obtain ⟨g2, f2, hc2, hg2, hf2⟩ := hcp
  have l2 : g2.length = h.length + 2 := by rw [hg2, List.length_append, l1]; rfl
  have G2 : zG (12 + w.length) 0 0 g1 g2 := by rw [hg2]; exact zG_app (c := .inl (3, w.length, .inl f2))
  have c2 := G2.gt c1 (Or.inr (Nat.zero_le _))
  have d2 : g2[h.length + 1]? = some (.inl (3, w.length, .inl f2)) := by rw [hg2, ← l1]; exact zG_end
  have r2 := zh_put (k := 0) (v := .ref g1.length) c2 (by show _ < 4; decide)
  generalize hg3 : g2.set h.length (.inr (0, [.ref g1.length, .int 0, .int 0, .int 0])) = g3
  have r2 : zf_put 0 0 h.length (.ref g1.length) g2 = some g3 := r2.trans (congrArg some hg3)
  have c3 : g3[h.length]? = some (.inr (0, [.ref g1.length, .int 0, .int 0, .int 0])) := by rw [← hg3]; exact zh_set_s c2
  have d3 : g3[h.length + 1]? = some (.inl (3, w.length, .inl f2)) := by rw [← hg3, zh_set_n (by omega)]; exact d2
  have hfr : ∀ p, p < h.length → g3[p]? = h[p]? := fun p hp => by
    rw [← hg3, zh_set_n (by omega), G2.2.2 p (by omega) (Or.inr (Nat.zero_le _)), G1.2.2 p hp (Or.inr (Nat.zero_le _))]
  have hm3 : zM g3 = zM g2 := by
    unfold zM
    rw [← hg3, zh_set_sz (c' := .inr (0, [.ref g1.length, .int 0, .int 0, .int 0])) c2 rfl, List.length_set]
  refine ⟨g3, ?_, ⟨g1.length, .int 0, .int 0, f2, c3, by rw [l1]; exact d3, hf2, h5, by omega⟩, ⟨by rw [← hg3, List.length_set, l2]; omega, by have := G1.m; have := G2.m; omega, fun p hp _ => hfr p hp⟩, ⟨ml, f, by rw [hfr q hq]; exact e1, by rw [hfr a ha]; exact e2, h1, h2, h3, h4, h5⟩⟩
  have hv1 : fv_1 q g1 = some (a, g1) := by
    unfold fv_1
    rw [zh_kd i1, if_pos rfl]
    unfold f_AbstractStringBuilder_getValue
    rw [ze_b (zh_A i1 rfl)]
  have hv2 : fv_2 q g1 = some (nI w.length, g1) := by
    unfold fv_2
    rw [zh_kd i1, if_pos rfl]
    unfold f_StringBuilder_length f_AbstractStringBuilder_length
    rw [ze_b (zh_is i1)]
    refine ze_b2 (a := nI w.length) (g := g1) ?_
    rw [ze_b (zh_I i1 rfl)]
  unfold f_StringBuilder_toString
  rw [ze_b2 (zh_newO hl), hg1]
  refine ze_b2 (a := ()) (g := g3) ?_
  unfold f_String_init
  refine ze_b2 (a := ()) (g := g3) ?_
  unfold f_String_initq2
  rw [ze_b2 hv1, ze_b2 hv2, ze_b2 (f0 g1 s1), if_neg (by decide), ze_b r1, ze_b2 hc2, ze_b r2]
end ZTX
