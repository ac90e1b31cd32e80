/-! ===== a drawn filter, said and read ===== -/
section ZPF
variable {h g j : zx_H} {now : Nat} {ver : Nat → Nat → zT} {tx : List Nat} {pr : Nat × (Nat → Nat) × (Nat → Int32)} {gr : zT × Nat × Nat × (Nat → Int64) × (Nat → Nat → Bool)} {q pt a m k t p : Nat} {w s u : List Nat} {ts : List (Nat × Int64)} {T : zT}
theorem zgmap {α β : Type} {f : α → β} {d : α} {d' : β} : ∀ (l : List α) (i : Nat), i < l.length → (l.map f).getD i d' = f (l.getD i d)
  | [], _, h => absurd h (Nat.not_lt_zero _)
  | _ :: _, 0, _ => rfl
  | _ :: l, i + 1, h => zgmap l i (Nat.lt_of_succ_lt_succ h)
/-- the tokens of a text, and its end -/
theorem ztk_at (x : zLx s ts) (hl : s.length ≤ 160) : zat (ztk s) 0 ts ∧ zfo (ztk s) ts.length = 0 := by
  have h0 : ztb s (0 + s.length) = 0 := by
    unfold ztb
    rw [Nat.zero_add, List.getD_eq_getElem?_getD, List.getElem?_eq_none (Nat.le_refl _)]
    rfl
  obtain ⟨n, pre, e1, e2, e3⟩ := x (ztb s) s.length 161 0 (fun j _ => by unfold ztb; rw [Nat.zero_add]) (by omega) hl (by rw [h0]; decide) (by rw [h0]; decide) (by omega)
  obtain ⟨n, rfl⟩ : ∃ j, n = j + 1 := ⟨n - 1, by omega⟩
  have e4 : zlx (ztb s) s.length (n + 1) (0 + s.length) = [(0, s.length, -1)] := by
    show (if s.length ≤ 0 + s.length then _ else _) = _
    rw [if_pos (by omega)]
  have e5 : ztk s = pre ++ [(0, s.length, -1)] := by
    unfold ztk
    rw [e2, e4]
  have hlen : ts.length = pre.length := by rw [← e3, List.length_map]
  have hlen2 : (ztk s).length = pre.length + 1 := by rw [e5, List.length_append]; rfl
  refine ⟨fun i hi => ?_, ?_⟩
  · have hi2 : i < pre.length := by omega
    have e6 : (ztk s).getD (0 + i) zt0 = pre.getD i zt0 := by rw [Nat.zero_add, e5, zgdA1 _ _ _ hi2]
    have e7 : ts.getD i (0, 0) = ((pre.getD i zt0).1, (pre.getD i zt0).2.2) := by rw [← e3]; exact zgmap pre i hi2
    unfold zfo zvu
    rw [if_pos (by omega), e6, e7]
    exact ⟨rfl, rfl⟩
  · unfold zfo
    rw [e5, hlen, ← Nat.add_zero pre.length, zgdA2]
    rfl
/-- what is chosen doesn't change what a text means -/
theorem zan_cho {P : Nat → Bool} {c r : Nat} {ks : List Int64} : ∀ i, zan (zCho T P) c ks i r = zan T c ks i r
  | 0 => rfl
  | i + 1 => by
    show (zan (zCho T P) c ks i r || _) = (zan T c ks i r || _)
    rw [zan_cho i]
    rfl
theorem zrt_cho {P : Nat → Bool} {c x : Nat} : zrt (zCho T P) c x = zrt T c x := by
  funext ks r
  unfold zrt
  rw [zan_cho]
  rfl
theorem zpt_cho {L : List (Nat × Nat × Int64)} {P : Nat → Bool} (p : Nat) : zpt L (zCho T P) p = zpt L T p := by
  unfold zpt
  rw [zrt_cho]
  rfl
theorem zpp_cho {L : List (Nat × Nat × Int64)} {P : Nat → Bool} {R : Nat → Nat → zR0} {o : Nat} : zpp L (zCho T P) R o = zpp L T R o := by
  funext p
  unfold zpp zpp0
  rw [zpt_cho]
theorem zpart1_cho {L : List (Nat × Nat × Int64)} {P : Nat → Bool} {R : Nat → Nat → zR0} {o : Nat} : zpart1 L (zCho T P) R o = zpart1 L T R o := by
  funext p
  unfold zpart1
  rw [zpp_cho]
theorem zpF_cho {L : List (Nat × Nat × Int64)} {P : Nat → Bool} : ∀ n, zpF L (zCho T P) n = zpF L T n
  | 0 => rfl
  | n + 1 => by
    funext o p
    show zpfilt L (zCho T P) (zpF L (zCho T P) n) o p = zpfilt L T (zpF L T n) o p
    rw [zpF_cho n]
    unfold zpfilt
    rw [zpart1_cho]
theorem zpW_cho {L : List (Nat × Nat × Int64)} {P : Nat → Bool} : zpW L (zCho T P) = zpW L T := by
  unfold zpW
  rw [zpF_cho]
theorem zlt16 : ∀ n, n < 11 → ¬ (2147483631 : Int32) ≤ nI n := by decide
/-- a builder made of a text -/
theorem zSB_of (hl : zLit p u) (hu : u.length ≤ 10) (e : h[q]? = some (.inr (1, zx_def 1))) (hB : zM h ≤ 6900000) : ∃ g a', f_StringBuilder_initq2 q p h = some ((), g) ∧ zSB g q a' (u.length + 16) u ∧ h.length ≤ a' ∧ h.length ≤ g.length ∧ zM g ≤ zM h + 60 ∧ ∀ r, r < h.length → r ≠ q → g[r]? = h[r]? := by
  have hlim := zlim (h := h) (by omega)
  have hlen := zlen (h := h) (by omega)
  have hqh : q < h.length := zlt_of e
  rw [zdef1] at e
  have t0 := hl.tx (h := h) (by omega)
  obtain ⟨t1, t2, -⟩ := id t0
  have hco : f_String_coder p h = some (0, h) := by
    unfold f_String_coder
    rw [if_neg (by decide), ze_b t2, if_pos (show narrow .byte (.int 0) = .int 0 from rfl)]
  have r1 := zh_put (k := 1) (v := .int 0) e (by show _ < 4; decide)
  have hs1 : h.set q (.inr (1, [.null, .int 0, .int 0, .int 0])) = h := zh_set_same e
  have r1 : zf_put 1 1 q (.int 0) h = some h := r1.trans (congrArg some hs1)
  have n2 := zh_newB (h := h) (n := u.length + 16) (by omega) hlim
  generalize hg2 : h ++ [.inl (3, u.length + 16, .inl fun _ => 0)] = g2 at n2
  have l2 : g2.length = h.length + 1 := by rw [← hg2, List.length_append]; rfl
  have G2 : zG (12 + (u.length + 16)) 0 0 h g2 := by rw [← hg2]; exact zG_app (c := .inl (3, u.length + 16, .inl fun _ => 0))
  have e2 : g2[h.length]? = some (.inl (3, u.length + 16, .inl fun _ => 0)) := by rw [← hg2]; exact zG_end
  have e3 := G2.gt e (Or.inr (Nat.zero_le _))
  have r3 := zh_put (k := 0) (v := .ref h.length) e3 (by show _ < 4; decide)
  generalize hg3 : g2.set q (.inr (1, [.ref h.length, .int 0, .int 0, .int 0])) = g3
  have r3 : zf_put 1 0 q (.ref h.length) g2 = some g3 := r3.trans (congrArg some hg3)
  have s3 : g3[q]? = some (.inr (1, [.ref h.length, .int 0, .int 0, .int 0])) := by rw [← hg3]; exact zh_set_s e3
  have s4 : g3[h.length]? = some (.inl (3, u.length + 16, .inl fun _ => 0)) := by rw [← hg3, zh_set_n (by omega)]; exact e2
  have l3 : g3.length = g2.length := by rw [← hg3, List.length_set]
  have m3 : zM g3 = zM g2 := by
    unfold zM
    rw [l3, ← hg3, zh_set_sz (c' := .inr (1, [.ref h.length, .int 0, .int 0, .int 0])) e3 rfl]
  have m2 := G2.m
  have sb : zSB g3 q h.length (u.length + 16) [] := ⟨0, fun _ => 0, s3, s4, Nat.zero_le _, by omega, zfb_mk fun i _ => by decide, fun i hi => absurd hi (Nat.not_lt_zero _), fun c hc => absurd hc List.not_mem_nil⟩
  obtain ⟨g, a', m', e5, s5, st5, b5⟩ := zSB_str sb (u := u) (p := p) (fun g _ hg _ => hl.tx (zlen (h := g) (by omega))) (by show 0 + u.length ≤ _; omega) (by omega)
  have b5 : m' ≤ u.length + 16 ∨ m' ≤ 2 * (0 + u.length) := b5
  obtain ⟨c1, c2, c3, c4, c5⟩ := st5
  have hrm : m' = u.length + 16 := by omega
  subst hrm
  refine ⟨g, a', ?_, s5, by omega, by omega, by omega, fun r hr hq => ?_⟩
  · have ev : fv_3 q p g3 = some (q, g) := by
      unfold fv_3
      rw [zh_kd s3, if_pos rfl]
      unfold f_StringBuilder_appendq4
      rw [ze_b (zh_is s3), ze_b2 e5]
    unfold f_StringBuilder_initq2
    refine (ze_b2 (a := ()) (g := g) ?_).trans rfl
    unfold f_AbstractStringBuilder_initq2
    rw [ze_b t1, ze_b2 t0.length, if_neg (zlt16 _ (by omega)), show (16 : Int32) = nI 16 from rfl, nI_add]
    unfold f_AbstractStringBuilder_initq2_24
    rw [ze_b t1, ze_b2 hco, if_pos (show narrow .byte (.int 0) = .int 0 from rfl), ze_b r1, if_neg (fun x => x rfl), ze_b2 n2, ze_b r3, ze_b2 ev]
  · rw [c3 r (by omega) hq (by omega), ← hg3, zh_set_n (by omega), G2.2.2 r hr (Or.inr (Nat.zero_le _))]
theorem zSB_toS2 {q a m : Nat} {w : List Nat} (s : zSB h q a m w) (hB : zM h ≤ 7000000) : ∃ g, f_StringBuilder_toString q h = some (h.length, g) ∧ zStr g h.length w ∧ zG (28 + m) 0 0 h g ∧ zSB g q a m w ∧ (∃ x y, g[h.length]? = some (.inr (0, [.ref (h.length + 1), .int 0, x, y]))) ∧ g.length = h.length + 2 := by
  have hl := zlim (h := h) (by omega)
  have hl' := zlen (h := h) (by omega)
  have f0 := fun (g : zx_H) (s : zSB g q a m w) => zfv0 s
  obtain ⟨ml, f, e1, e2, h1, h2, h3, h4, h5⟩ := s
  have ha := zlt_of e2
  have hq := zlt_of e1
  generalize hg1 : h ++ [.inr (0, zx_def 0)] = g1
  have l1 : g1.length = h.length + 1 := by rw [← hg1, List.length_append]; rfl
  have G1 : zG 16 0 0 h g1 := by rw [← hg1]; exact zG_app (c := .inr (0, zx_def 0))
  have c1 : g1[h.length]? = some (.inr (0, [.null, .int 0, .int 0, .int 0])) := by rw [← hg1, zdef0]; exact zG_end
  have i1 := G1.gt e1 (Or.inr (Nat.zero_le _))
  have i2 := G1.gt e2 (Or.inr (Nat.zero_le _))
  have s1 : zSB g1 q a m w := ⟨ml, f, i1, i2, h1, h2, h3, h4, h5⟩
  have r1 := zh_put (k := 1) (v := .int 0) c1 (by show _ < 4; decide)
  have hset : g1.set h.length (.inr (0, [.null, .int 0, .int 0, .int 0])) = g1 := by
    rw [← hg1, zdef0, zh_as (g := h) (r := []) ]
  have r1 : zf_put 0 1 h.length (.int 0) g1 = some g1 := r1.trans (congrArg some hset)
  have hne : a ≠ zx_lim := by show a ≠ 1000000; omega
  -- the bytes
  have hcp : ∃ g2 f2, f_Arrays_copyOfRange a 0 (nI w.length) g1 = some (g1.length, g2) ∧ g2 = g1 ++ [.inl (3, w.length, .inl f2)] ∧ ∀ i, i < w.length → f2 i = nI (w.getD i 0) := by
    unfold f_Arrays_copyOfRange
    rw [if_neg (fun x => x rfl), ze_b (zh_len hne i2 rfl)]
    by_cases hc : nI w.length = nI m
    · have hwm : w.length = m := (nI_eq (by omega) (by omega)).mp hc
      have hcl : zf_clone a g1 = some (g1.length, g1 ++ [.inl (3, m, .inl f)]) := by
        unfold zf_clone
        rw [i2]
        show (if _ then _ else _) = _
        rw [if_pos ⟨rfl, h3, by rw [l1]; show _ < 1000000; omega⟩]
      rw [if_pos hc, ze_b2 hcl]
      exact ⟨_, f, rfl, by rw [hwm], h4⟩
    · have n1 := zh_newB (h := g1) (n := w.length) (by omega) (by rw [l1]; show _ < 1000000; omega)
      have hwm : w.length < m := by
        rcases Nat.lt_or_ge w.length m with x | x
        · exact x
        · exact absurd (congrArg nI (show w.length = m by omega)) hc
      have G2 : zG (12 + w.length) 0 0 g1 (g1 ++ [.inl (3, w.length, .inl fun _ => 0)]) := zG_app (c := .inl (3, w.length, .inl fun _ => 0))
      have i3 := G2.gt i2 (Or.inr (Nat.zero_le _))
      have i4 : (g1 ++ [(.inl (3, w.length, .inl fun _ => 0) : zx_E)])[g1.length]? = some (.inl (3, w.length, .inl fun _ => 0)) := zG_end
      have hfb : zx_fb f 0 w.length = true := zfb_mk fun i hi => zfb_all h3 (by omega)
      have n2 := zh_cpyB (sp := 0) (dp := 0) i3 i4 hfb (by omega) (by omega) (by omega) (by omega)
      have n2 : zf_cpy a (0 : Int32) g1.length (0 : Int32) (nI w.length) (g1 ++ [.inl (3, w.length, .inl fun _ => 0)]) = _ := n2
      have hset2 : (g1 ++ [(.inl (3, w.length, .inl fun _ => 0) : zx_E)]).set g1.length (.inl (3, w.length, .inl (va_cpy f (fun _ => 0) 0 0 w.length))) = g1 ++ [.inl (3, w.length, .inl (va_cpy f (fun _ => 0) 0 0 w.length))] := zh_as (g := g1) (r := [])
      rw [hset2] at n2
      have z1 : nI w.length - (0 : Int32) = nI w.length := by rw [show (0 : Int32) = nI 0 from rfl, pk_sub (Nat.zero_le _), Nat.sub_zero]
      have z2 : nI m - (0 : Int32) = nI m := by rw [show (0 : Int32) = nI 0 from rfl, pk_sub (Nat.zero_le _), Nat.sub_zero]
      rw [if_neg hc]
      unfold f_Arrays_copyOfRangeByte f_Arrays_checkLength
      refine ⟨_, va_cpy f (fun _ => 0) 0 0 w.length, ?_, rfl, fun i hi => ?_⟩
      · refine ze_b2 (a := g1.length) (g := _) ?_
        rw [if_pos (show (0 : Int32) ≤ nI w.length from nI_pos' (by omega)), ze_b2 rfl, z1, ze_b2 n1, ze_b (zh_len hne i3 rfl), z2, if_pos (nI_lt hwm (by omega)), ze_b n2]
      · rw [pk_cpy_in (Nat.zero_le _) (by omega), show 0 + (i - 0) = i by omega]
        exact h4 i hi
  obtain ⟨g2, f2, hc2, hg2, hf2⟩ := hcp
  have l2 : g2.length = h.length + 2 := by rw [hg2, List.length_append, l1]; rfl
  have G2 : zG (12 + w.length) 0 0 g1 g2 := by rw [hg2]; exact zG_app (c := .inl (3, w.length, .inl f2))
  have c2 := G2.gt c1 (Or.inr (Nat.zero_le _))
  have d2 : g2[h.length + 1]? = some (.inl (3, w.length, .inl f2)) := by rw [hg2, ← l1]; exact zG_end
  have r2 := zh_put (k := 0) (v := .ref g1.length) c2 (by show _ < 4; decide)
  generalize hg3 : g2.set h.length (.inr (0, [.ref g1.length, .int 0, .int 0, .int 0])) = g3
  have r2 : zf_put 0 0 h.length (.ref g1.length) g2 = some g3 := r2.trans (congrArg some hg3)
  have c3 : g3[h.length]? = some (.inr (0, [.ref g1.length, .int 0, .int 0, .int 0])) := by rw [← hg3]; exact zh_set_s c2
  have d3 : g3[h.length + 1]? = some (.inl (3, w.length, .inl f2)) := by rw [← hg3, zh_set_n (by omega)]; exact d2
  have hfr : ∀ p, p < h.length → g3[p]? = h[p]? := fun p hp => by
    rw [← hg3, zh_set_n (by omega), G2.2.2 p (by omega) (Or.inr (Nat.zero_le _)), G1.2.2 p hp (Or.inr (Nat.zero_le _))]
  have hm3 : zM g3 = zM g2 := by
    unfold zM
    rw [← hg3, zh_set_sz (c' := .inr (0, [.ref g1.length, .int 0, .int 0, .int 0])) c2 rfl, List.length_set]
  refine ⟨g3, ?_, ⟨g1.length, .int 0, .int 0, f2, c3, by rw [l1]; exact d3, hf2, h5, by omega⟩, ⟨by rw [← hg3, List.length_set, l2]; omega, by have := G1.m; have := G2.m; omega, fun p hp _ => hfr p hp⟩, ⟨ml, f, by rw [hfr q hq]; exact e1, by rw [hfr a ha]; exact e2, h1, h2, h3, h4, h5⟩, ⟨_, _, by rw [← l1]; exact c3⟩, by rw [← hg3, List.length_set, l2]⟩
  have hv1 : fv_1 q g1 = some (a, g1) := by
    unfold fv_1
    rw [zh_kd i1, if_pos rfl]
    unfold f_AbstractStringBuilder_getValue
    rw [ze_b (zh_A i1 rfl)]
  have hv2 : fv_2 q g1 = some (nI w.length, g1) := by
    unfold fv_2
    rw [zh_kd i1, if_pos rfl]
    unfold f_StringBuilder_length f_AbstractStringBuilder_length
    rw [ze_b (zh_is i1)]
    refine ze_b2 (a := nI w.length) (g := g1) ?_
    rw [ze_b (zh_I i1 rfl)]
  unfold f_StringBuilder_toString
  rw [ze_b2 (zh_newO hl), hg1]
  refine ze_b2 (a := ()) (g := g3) ?_
  unfold f_String_init
  refine ze_b2 (a := ()) (g := g3) ?_
  unfold f_String_initq2
  rw [ze_b2 hv1, ze_b2 hv2, ze_b2 (f0 g1 s1), if_neg (by decide), ze_b r1, ze_b2 hc2, ze_b r2]
/-- the opposite of a text that stands in a builder -/
theorem zff_text (sb : zSB h q a m w) (h177 : 177 ≤ q) (hw : w.length ≤ 155) (hm : m ≤ 18100) (hB : zM h ≤ 6800000) : ∃ g r, (∀ K : Nat → zx_H → Option ((Int32 ⊕ Nat) × zx_H), (zf_b2 (zf_new 1 h) fun q14 h15 => zf_b2 (f_StringBuilder_init q14 h15) fun _ h17 => zf_b (zf_is 1 q14 h17) fun _ => zf_b2 (f_StringBuilder_appendq3 q14 (zx_lim + 1 + 634) h17) fun v18 h19 => zf_b (zf_is 1 v18 h19) fun _ => zf_b2 (f_StringBuilder_appendq6 v18 q h19) fun v20 h21 => zf_b (zf_is 1 v20 h21) fun _ => zf_b2 (f_StringBuilder_appendq3 v20 (zx_lim + 1 + 624) h21) fun v22 h23 => zf_b (zf_is 1 v22 h23) fun _ => zf_b2 (f_StringBuilder_toString v22 h23) fun v24 h25 => K v24 h25) = K r g) ∧ (∀ g', zG 0 148 150 g g' → zStr g' r ([33, 40] ++ w ++ [41])) ∧ zG 21000 0 0 h g := by
  obtain ⟨h2, g3, n1, n2, s3, G3, l3⟩ := zSB_new2 (h := h) (by omega)
  have m3 := G3.m
  obtain ⟨ml, f, i1, i2, _⟩ := id sb
  have hq := zlt_of i1
  have ha := zlt_of i2
  obtain ⟨g4, a4, k4, e4, s4, st4, b4⟩ := zSB_str s3 (u := [33, 40]) (p := zx_lim + 1 + 634) (fun g _ hg _ => zl_634.tx (zlen (h := g) (by omega))) (by decide) (by omega)
  have b4 : k4 ≤ 16 ∨ k4 ≤ 4 := b4
  obtain ⟨x1, x2, x3, x4, x5⟩ := id st4
  have hk4 : k4 = 16 := by omega
  subst hk4
  have G4 : zG (48 + 2 * 16 + 10) 0 0 h g4 := st4.fr G3 (Nat.le_refl _) (by omega)
  have sb4 := sb.keep (G4.2.2 q hq (Or.inr (Nat.zero_le _))) (G4.2.2 a ha (Or.inr (Nat.zero_le _)))
  have l4 := G4.l
  have m4 := G4.m
  obtain ⟨g5, e5, t5, G5, sb5, ⟨x, y, z5⟩, l5⟩ := zSB_toS2 sb4 (by omega)
  have m5 := G5.m
  obtain ⟨ml2, f2, j1, j2, _⟩ := id s4
  have hq4 := zlt_of j1
  have ha4 := zlt_of j2
  have s5 := s4.keep (G5.2.2 h.length hq4 (Or.inr (Nat.zero_le _))) (G5.2.2 a4 ha4 (Or.inr (Nat.zero_le _)))
  have hb : ∀ (b : Nat) (x' y' : Value), g5[g4.length]? = some (.inr (0, [.ref b, .int 0, x', y'])) → b ≠ h.length ∧ b ≠ a4 := by
    intro b x' y' e
    rw [z5] at e
    have : g4.length + 1 = b := by cases e; rfl
    exact ⟨by omega, by omega⟩
  obtain ⟨g6, a6, k6, e6, s6, st6, b6⟩ := zSB_str s5 (u := w) (p := g4.length) (fun g _ hg hk => (zStr.keep (q := h.length) (a := a4) t5 hk ⟨by omega, by omega⟩ fun b x' y' e => hb b x' y' e).tx (zlen (h := g) (by omega))) (by show 0 + 2 + _ ≤ _; omega) (by omega)
  have b6 : k6 ≤ 16 ∨ k6 ≤ 2 * (0 + 2 + w.length) := b6
  obtain ⟨y1, y2, y3, y4, y5⟩ := id st6
  have ha6 : h.length ≤ a6 := by omega
  have G45 := (G4.t G5).w (k' := 130 + m) (a' := 0) (b' := 0) (by omega) (Nat.le_refl _) (Nat.le_refl _)
  have G6 : zG (130 + m + 2 * k6 + 10) 0 0 h g6 := st6.fr G45 (Nat.le_refl _) (by omega)
  have hws : ([33, 40] ++ w).length = 2 + w.length := by rw [List.length_append]; rfl
  have s6 : zSB g6 h.length a6 k6 ([33, 40] ++ w) := s6
  have m6 := G6.m
  obtain ⟨g7, a7, k7, e7, s7, st7, b7⟩ := zSB_str s6 (u := [41]) (p := zx_lim + 1 + 624) (fun g _ hg _ => zl_624.tx (zlen (h := g) (by omega))) (by rw [hws]; show 2 + _ + 1 ≤ _; omega) (by omega)
  have b7 : k7 ≤ k6 ∨ k7 ≤ 2 * (2 + w.length + 1) := by rw [← hws]; exact b7
  have G7 : zG (130 + m + 2 * k6 + 10 + 2 * k7 + 10) 0 0 h g7 := st7.fr G6 (Nat.le_refl _) ha6
  have m7 := G7.m
  obtain ⟨g8, e8, t8, G8, -, ⟨x8, y8, z8⟩, l8⟩ := zSB_toS2 s7 (by omega)
  have l7 := G7.l
  have l77 : 177 ≤ g7.length := by omega
  have hb8 : ∀ (b : Nat) (x' y' : Value), g8[g7.length]? = some (.inr (0, [.ref b, .int 0, x', y'])) → b ≠ 148 ∧ b ≠ 149 := by
    intro b x' y' e
    rw [z8] at e
    have : g7.length + 1 = b := by cases e; rfl
    exact ⟨by omega, by omega⟩
  refine ⟨g8, g7.length, fun K => ?_, fun g' G' => zStr.keep (q := 148) (a := 149) t8 (fun r hr h1 h2 => G'.2.2 r hr (by omega)) ⟨by omega, by omega⟩ hb8, (G7.t G8).w (by omega) (Nat.le_refl _) (Nat.le_refl _)⟩
  have e56 : f_StringBuilder_appendq6 h.length q g4 = some (h.length, g6) := by
    obtain ⟨ml3, f3, c1, _⟩ := id sb4
    have ev : fv_6 q g4 = some (g4.length, g5) := by
      unfold fv_6
      rw [zh_kd c1, if_neg (by decide), if_pos rfl, e5]
    unfold f_StringBuilder_appendq6 f_String_valueOf
    rw [ev]
    refine (ze_b2 (a := g4.length) (g := g5) (ze_b2 rfl)).trans ?_
    rw [ze_b s5.is, ze_b2 e6]
  rw [ze_b2 n1, ze_b2 n2, ze_b s3.is, ze_b2 e4, ze_b s4.is, ze_b2 e56, ze_b s6.is, ze_b2 e7, ze_b s7.is, ze_b2 e8]
end ZPF
