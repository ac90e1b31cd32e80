/-! ===== appending ===== -/
section ZSC
variable {h g j : zx_H} {k k' : Nat}
theorem zh_kd {β : Type} {q ci : Nat} {fs : List Value} {f : Nat → Option β} (e : h[q]? = some (.inr (ci, fs))) : zf_kd q h f = f ci := by
  unfold zf_kd zx_kl
  rw [e]
theorem zfv0 {q a m : Nat} {w : List Nat} (s : zSB h q a m w) : fv_0 q h = some (1, h) := by
  obtain ⟨ml, f, e1, _⟩ := s
  unfold fv_0
  rw [zh_kd e1, if_pos rfl]
  unfold f_AbstractStringBuilder_isLatin1
  rw [if_neg (by decide), ze_b (zh_I e1 rfl), if_neg (fun x => x rfl)]
/-- what a step of a builder leaves: g from h, the builder at q -/
def zSt (h g : zx_H) (q a a' m m' : Nat) : Prop := h.length ≤ g.length ∧ zM g + 2 * m ≤ zM h + 2 * m' + 10 ∧ (∀ p, p < h.length → p ≠ q → p ≠ a → g[p]? = h[p]?) ∧ (a' = a ∨ h.length ≤ a') ∧ m ≤ m'
theorem zSt.gt {q a a' m m' : Nat} {w w' : List Nat} (x : zSt h g q a a' m m') (s : zSB h q a m w) (s' : zSB g q a' m' w') : zGt 40010 h g := by
  obtain ⟨x1, x2, x3, x4, x5⟩ := x
  have := s'.len
  refine ⟨x1, by omega, fun p c e n => ?_⟩
  obtain ⟨ml, f, e1, e2, _⟩ := s
  rw [x3 p (zlt_of e)]
  · exact e
  · rintro rfl
    rw [e1] at e; cases e; exact n
  · rintro rfl
    rw [e2] at e; cases e; exact n
theorem zgdA1 {α : Type} {d : α} : ∀ (w u : List α) (i : Nat), i < w.length → (w ++ u).getD i d = w.getD i d
  | [], _, _, h => absurd h (Nat.not_lt_zero _)
  | _ :: _, _, 0, _ => rfl
  | _ :: w, u, i + 1, h => zgdA1 w u i (Nat.lt_of_succ_lt_succ h)
theorem zgdA2 {α : Type} {d : α} : ∀ (w u : List α) (j : Nat), (w ++ u).getD (w.length + j) d = u.getD j d
  | [], u, j => by rw [show ([] : List α).length + j = j from Nat.zero_add j]; rfl
  | a :: w, u, j => by
    rw [show (a :: w).length + j = (w.length + j) + 1 by show w.length + 1 + j = _; omega]
    exact zgdA2 w u j
/-- bytes are put behind the text -/
theorem zSB_put {q a m : Nat} {w u : List Nat} (s : zSB h q a m w) (hu : w.length + u.length ≤ m) (hc : ∀ c ∈ u, c < 128) {f2 : Nat → Int32} {e2 : zx_E} (hz : ∃ ml f, h[q]? = some (.inr (1, [.ref a, .int 0, .int ml, .int (nI w.length)])) ∧ h[a]? = some (.inl (3, m, .inl f)) ∧ (∀ i, i < w.length → f2 i = f i) ∧ (∀ i, w.length + u.length ≤ i → f2 i = f i)) (hf2 : ∀ i, i < u.length → f2 (w.length + i) = nI (u.getD i 0)) : ∀ g : zx_H, (∃ ml, g[q]? = some (.inr (1, [.ref a, .int 0, .int ml, .int (nI (w ++ u).length)]))) → g[a]? = some (.inl (3, m, .inl f2)) → zSB g q a m (w ++ u) := by
  intro g ⟨ml', g1⟩ g2
  obtain ⟨ml, f, e1, e2', h1, h2, h3, h4, h5⟩ := s
  obtain ⟨ml3, f3, k1, k2, k3, k4⟩ := hz
  cases e2'.symm.trans k2
  refine ⟨ml', f2, g1, g2, by rw [List.length_append]; exact hu, h2, zfb_mk fun i hi => ?_, fun i hi => ?_, fun c hcc => ?_⟩
  · rcases Nat.lt_or_ge i w.length with c1 | c1
    · rw [k3 i c1]; exact zfb_all h3 hi
    · rcases Nat.lt_or_ge i (w.length + u.length) with c2 | c2
      · obtain ⟨j, rfl⟩ : ∃ j, i = w.length + j := ⟨i - w.length, by omega⟩
        rw [hf2 j (by omega)]
        have hj : j < u.length := by omega
        have : u.getD j 0 ∈ u := by rw [List.getD_eq_getElem?_getD, List.getElem?_eq_getElem hj]; exact List.getElem_mem hj
        exact zfb_c _ (hc _ this)
      · rw [k4 i c2]; exact zfb_all h3 hi
  · rw [List.length_append] at hi
    rcases Nat.lt_or_ge i w.length with c1 | c1
    · rw [k3 i c1, h4 i c1, zgdA1 w u i c1]
    · obtain ⟨j, rfl⟩ : ∃ j, i = w.length + j := ⟨i - w.length, by omega⟩
      rw [hf2 j (by omega), zgdA2 w u j]
  · rcases List.mem_append.mp hcc with x | x
    · exact h5 c x
    · exact hc c x
theorem zSB_char {q a m : Nat} {w : List Nat} (s : zSB h q a m w) {c : Nat} (hc : c < 128) (hw : w.length < 9000) (hB : zM h ≤ 7000000) : ∃ g a' m', f_StringBuilder_append q (nI c) h = some (q, g) ∧ zSB g q a' m' (w ++ [c]) ∧ zSt h g q a a' m m' ∧ (m' ≤ m ∨ m' ≤ 2 * (w.length + 1)) := by
  obtain ⟨g1, a', m', e1, s1, r1, r2, r3, r4, r5, r6, r7⟩ := zSB_room s (n := w.length + 1) (by omega) hB
  have f0 := zfv0 s1
  have s1' := s1
  have h20 := s1.len
  obtain ⟨ml0, f9, i1, _⟩ := s
  obtain ⟨ml, f, e2, e3, h1, h2, h3, h4, h5⟩ := s1
  have hne := s1'.ne
  have n1 := zh_put (k := 3) (v := .int (nI (w ++ [c]).length)) e2 (by show _ < 4; decide)
  generalize hg2 : g1.set q (.inr (1, [.ref a', .int 0, .int ml, .int (nI (w ++ [c]).length)])) = g2
  have n1 : zf_put 1 3 q (.int (nI (w ++ [c]).length)) g1 = some g2 := n1.trans (congrArg some hg2)
  have e4 : g2[a']? = some (.inl (3, m', .inl f)) := by rw [← hg2, zh_set_n hne]; exact e3
  have e5 : g2[q]? = some (.inr (1, [.ref a', .int 0, .int ml, .int (nI (w ++ [c]).length)])) := by rw [← hg2]; exact zh_set_s e2
  have n2 := zh_stB (x := (nI c).toInt8.toInt32) e4 (show w.length < m' by omega) (by omega)
  obtain ⟨c1, c2, c3⟩ := zfb_c2 c hc
  rw [c1] at n2
  generalize hg3 : g2.set a' (.inl (3, m', .inl (upd f w.length (nI c)))) = g3 at n2
  have e6 : g3[a']? = some (.inl (3, m', .inl (upd f w.length (nI c)))) := by rw [← hg3]; exact zh_set_s e4
  have e7 : g3[q]? = some (.inr (1, [.ref a', .int 0, .int ml, .int (nI (w ++ [c]).length)])) := by rw [← hg3, zh_set_n (Ne.symm hne)]; exact e5
  have hlen : (w ++ [c]).length = w.length + 1 := List.length_append
  refine ⟨g3, a', m', ?_, zSB_put s1' (u := [c]) (by show w.length + 1 ≤ m'; omega) (fun x hx => by rw [List.mem_singleton.mp hx]; exact hc) (f2 := upd f w.length (nI c)) (e2 := .inr (0, [])) ⟨ml, f, e2, e3, fun i hi => pk_un (by omega), fun i hi => pk_un (by have hi : w.length + 1 ≤ i := hi; omega)⟩ (fun i hi => by
    have hi : i < 1 := hi
    have : i = 0 := by omega
    subst this
    rw [Nat.add_zero, pk_us]; rfl) g3 ⟨ml, e7⟩ e6, ⟨?_, ?_, fun p hp p1 p2 => ?_, r5, r6⟩, r7⟩
  · unfold f_StringBuilder_append f_AbstractStringBuilder_append f_StringLatin1_canEncode
    rw [ze_b (zh_is i1)]
    refine ze_b2 (a := q) (g := g3) ?_
    rw [ze_b (zh_I i1 rfl), ze_b (zh_is i1), nI_1, ze_b2 e1, ze_b2 f0, if_neg (by decide), if_neg (show ¬ (255 : Int32) < nI c from nI_nlt (a := 255) (by omega) (by omega)), ze_b2 rfl, if_neg (by decide), ze_b (zh_A e2 rfl), ze_b (zh_I e2 rfl), nI_1, ← hlen, ze_b n1, ze_b n2]
  · rw [← hg3, List.length_set, ← hg2, List.length_set]; exact r2
  · have : zM g3 = zM g1 := by
      unfold zM
      rw [← hg3, zh_set_sz (c' := .inl (3, m', .inl (upd f w.length (nI c)))) e4 rfl, List.length_set, ← hg2, zh_set_sz (c' := .inr (1, [.ref a', .int 0, .int ml, .int (nI (w ++ [c]).length)])) e2 rfl, List.length_set]
    rw [this]; exact r3
  · have : p ≠ a' := by rcases r5 with x | x <;> omega
    rw [← hg3, zh_set_n (Ne.symm this), ← hg2, zh_set_n (Ne.symm p1)]
    exact r4 p hp p1 p2
/-! a text that is an object -/
def zStr (h : zx_H) (q : Nat) (w : List Nat) : Prop := ∃ (a : Nat) (x y : Value) (f : Nat → Int32), h[q]? = some (.inr (0, [.ref a, .int 0, x, y])) ∧ h[a]? = some (.inl (3, w.length, .inl f)) ∧ (∀ i, i < w.length → f i = nI (w.getD i 0)) ∧ (∀ c ∈ w, c < 128) ∧ w.length ≤ 20000
/-- a text that stood before -/
def zLit (q : Nat) (w : List Nat) : Prop := ∃ k : Nat, zt_tx[k]? = some (w.map nI) ∧ q = zx_lim + 1 + (600 + 2 * k) ∧ k < 90 ∧ (∀ c ∈ w, c < 128) ∧ w.length ≤ 100
/-- a text to be read: what its readers find -/
def zTx (h : zx_H) (q : Nat) (w : List Nat) : Prop := zf_is 0 q h = some () ∧ zfx_I 0 1 q h = some 0 ∧ ∃ (a : Nat), zfx_A 0 0 q h = some a ∧ zf_len a h = some (nI w.length) ∧ (∀ i, i < w.length → zf_ldB a (nI i) h = some (nI (w.getD i 0))) ∧ (∀ c ∈ w, c < 128) ∧ w.length ≤ 20000 ∧ ∃ f : Nat → Int32, (∀ i, i < w.length → f i = nI (w.getD i 0)) ∧ ∀ (q1 n1 : Nat) (dp : Nat) (g : Nat → Int32), h[q1]? = some (.inl (3, n1, .inl g)) → dp + w.length ≤ n1 → n1 ≤ 20000 → zf_cpy a 0 q1 (nI dp) (nI w.length) h = some (h.set q1 (.inl (3, n1, .inl (va_cpy f g 0 dp w.length))))
theorem zStr.tx {q : Nat} {w : List Nat} (s : zStr h q w) (hl : h.length ≤ 600000) : zTx h q w := by
  obtain ⟨a, x, y, f, e1, e2, h1, h2, h3⟩ := s
  have ha := zlt_of e2
  have hne : a ≠ zx_lim := by show a ≠ 1000000; omega
  have hfb : zx_fb f 0 w.length = true := zfb_mk fun i hi => by
    rw [h1 i hi]
    have : w.getD i 0 ∈ w := by rw [List.getD_eq_getElem?_getD, List.getElem?_eq_getElem hi]; exact List.getElem_mem hi
    exact zfb_c _ (h2 _ this)
  refine ⟨zh_is e1, ?_, a, ?_, zh_len hne e2 rfl, fun i hi => by rw [zh_ldB e2 hi (by omega), h1 i hi], h2, h3, f, h1, fun q1 n1 dp g e3 hd hn => ?_⟩
  · unfold zfx_I zfx_get
    rw [e1]; rfl
  · unfold zfx_A zfx_get
    rw [e1]; rfl
  · have := zh_cpyB (sp := 0) e2 e3 hfb (by omega) hd (by omega) (by omega)
    exact this
theorem zx_x_s {k : Nat} {t : List Int32} (e : zt_tx[k]? = some t) (hk : k < 90) : zx_x (zx_lim + 1 + (600 + 2 * k)) = some (.object "java/lang/String", .inr (0, [.ref (zx_lim + 1 + (600 + 2 * k + 1)), .int 0, .retAddr 0, .retAddr 0])) ∧ zx_x (zx_lim + 1 + (600 + 2 * k + 1)) = some (.byte, .inl (0, t.length, .inl fun i => t.getD i 0)) := by
  constructor
  · unfold zx_x
    rw [if_pos (by omega), show zx_lim + 1 + (600 + 2 * k) - zx_lim - 1 = 600 + 2 * k by omega]
    unfold zt_ext
    rw [if_neg (by omega), if_pos (by omega), show (600 + 2 * k - 600) / 2 = k by omega, e]
    show some (zt_tc (600 + 2 * k) t) = _
    unfold zt_tc
    rw [if_pos (by omega)]
  · unfold zx_x
    rw [if_pos (by omega), show zx_lim + 1 + (600 + 2 * k + 1) - zx_lim - 1 = 600 + 2 * k + 1 by omega]
    unfold zt_ext
    rw [if_neg (by omega), if_pos (by omega), show (600 + 2 * k + 1 - 600) / 2 = k by omega, e]
    show some (zt_tc (600 + 2 * k + 1) t) = _
    unfold zt_tc
    rw [if_neg (by omega)]
theorem zh_out {q : Nat} (hl : h.length ≤ 600000) (hq : 600000 ≤ q) : h[q]? = none := List.getElem?_eq_none (by omega)
theorem zLit.tx {q : Nat} {w : List Nat} (s : zLit q w) (hl : h.length ≤ 600000) : zTx h q w := by
  obtain ⟨k, e, rfl, hk, h2, h3⟩ := s
  obtain ⟨x1, x2⟩ := zx_x_s e hk
  have o1 : h[zx_lim + 1 + (600 + 2 * k)]? = none := zh_out hl (by show 600000 ≤ 1000000 + 1 + _; omega)
  have o2 : h[zx_lim + 1 + (600 + 2 * k + 1)]? = none := zh_out hl (by show 600000 ≤ 1000000 + 1 + _; omega)
  have hg : ∀ i, i < w.length → (w.map nI).getD i 0 = nI (w.getD i 0) := fun i hi => by
    rw [List.getD_eq_getElem?_getD, List.getD_eq_getElem?_getD, List.getElem?_map, List.getElem?_eq_getElem hi]; rfl
  have hln : (w.map nI).length = w.length := List.length_map _
  have hfb : zx_fb (fun i => (w.map nI).getD i 0) 0 w.length = true := zfb_mk fun i hi => by
    rw [hg i hi]
    have : w.getD i 0 ∈ w := by rw [List.getD_eq_getElem?_getD, List.getElem?_eq_getElem hi]; exact List.getElem_mem hi
    exact zfb_c _ (h2 _ this)
  rw [hln] at x2
  have hcl := nI_clamp (n := w.length) (by omega)
  refine ⟨?_, ?_, zx_lim + 1 + (600 + 2 * k + 1), ?_, ?_, fun i hi => ?_, h2, by omega, fun i => (w.map nI).getD i 0, hg, fun q1 n1 dp g e3 hd hn => ?_⟩
  · unfold zf_is zx_kl
    rw [o1, x1]; rfl
  · unfold zfx_I zfx_get
    rw [o1, x1]; rfl
  · unfold zfx_A zfx_get
    rw [o1, x1]; rfl
  · unfold zf_len
    rw [if_neg (by omega), o2, x2]; rfl
  · unfold zf_ldB
    rw [o2, x2]
    have hin : zx_in (nI i) w.length := vp_in_nI hi (by omega)
    show (if zx_in (nI i) w.length then some ((fun i => (w.map nI).getD i 0) (nI i).toNatClampNeg) else none) = _
    rw [if_pos hin, nI_clamp (by omega)]
    exact congrArg some (hg i hi)
  · unfold zf_cpy
    rw [o2, e3, x2]
    have c3 := nI_clamp (n := dp) (by omega)
    have z : ((0 : Int32)).toNatClampNeg = 0 := rfl
    show (if _ then _ else _) = _
    rw [if_pos]
    · rw [hcl, c3, z]
    · exact ⟨rfl, by rw [hcl, z]; exact hfb, by decide, nI_pos (by omega), nI_pos (by omega), by rw [hcl, z]; omega, by rw [hcl, c3]; exact hd⟩
/-- a text appended -/
theorem zSB_str {q a m p : Nat} {w u : List Nat} (s : zSB h q a m w) (ht : ∀ g : zx_H, h.length ≤ g.length → zM g ≤ 7100000 → (∀ p, p < h.length → p ≠ q → p ≠ a → g[p]? = h[p]?) → zTx g p u) (hw : w.length + u.length ≤ 9000) (hB : zM h ≤ 7000000) : ∃ g a' m', f_StringBuilder_appendq3 q p h = some (q, g) ∧ zSB g q a' m' (w ++ u) ∧ zSt h g q a a' m m' ∧ (m' ≤ m ∨ m' ≤ 2 * (w.length + u.length)) := by
  obtain ⟨t1, t2, ta, t3, t4, -⟩ := ht h (Nat.le_refl _) (by omega) (fun _ _ _ _ => rfl)
  obtain ⟨g1, a', m', e1, s1, r1, r2, r3, r4, r5, r6, r7⟩ := zSB_room s (n := w.length + u.length) (by omega) hB
  have f0 := zfv0 s1
  have s1' := s1
  have h20 := s1.len
  obtain ⟨u1, u2, ua, u3, u4, u5, u6, u7, uf, u8, u9⟩ := ht g1 r2 (by omega) r4
  obtain ⟨ml0, f9, i1, _⟩ := s
  obtain ⟨ml, f, e2, e3, h1, h2, h3, h4, h5⟩ := s1
  have hne := s1'.ne
  have n1 := u9 a' m' w.length f e3 r1 h2
  generalize hg2 : g1.set a' (.inl (3, m', .inl (va_cpy uf f 0 w.length u.length))) = g2 at n1
  have e4 : g2[a']? = some (.inl (3, m', .inl (va_cpy uf f 0 w.length u.length))) := by rw [← hg2]; exact zh_set_s e3
  have e5 : g2[q]? = some (.inr (1, [.ref a', .int 0, .int ml, .int (nI w.length)])) := by rw [← hg2, zh_set_n (Ne.symm hne)]; exact e2
  have n2 := zh_put (k := 3) (v := .int (nI (w ++ u).length)) e5 (by show _ < 4; decide)
  generalize hg3 : g2.set q (.inr (1, [.ref a', .int 0, .int ml, .int (nI (w ++ u).length)])) = g3
  have n2 : zf_put 1 3 q (.int (nI (w ++ u).length)) g2 = some g3 := n2.trans (congrArg some hg3)
  have e6 : g3[a']? = some (.inl (3, m', .inl (va_cpy uf f 0 w.length u.length))) := by rw [← hg3, zh_set_n hne]; exact e4
  have e7 : g3[q]? = some (.inr (1, [.ref a', .int 0, .int ml, .int (nI (w ++ u).length)])) := by rw [← hg3]; exact zh_set_s e5
  have hlen : (w ++ u).length = w.length + u.length := List.length_append
  have eb0 : narrow .byte (.int 0) = .int 0 := rfl
  have hsl : f_String_length p h = some (nI u.length, h) := by
    unfold f_String_length f_String_coder
    rw [ze_b t3, ze_b t4, ze_b t1, if_neg (by decide), ze_b t2, if_pos eb0, ze_b2 rfl, (zsh0 u.length (by omega)).1]
  have hcod : f_String_coder p g1 = some (0, g1) := by
    unfold f_String_coder
    rw [if_neg (by decide), ze_b u2, if_pos eb0]
  refine ⟨g3, a', m', ?_, zSB_put s1' (u := u) r1 u6 (f2 := va_cpy uf f 0 w.length u.length) (e2 := .inr (0, [])) ⟨ml, f, e2, e3, fun i hi => pk_cpy_out (by omega), fun i hi => pk_cpy_out (by omega)⟩ (fun i hi => by
    rw [pk_cpy_in (by omega) (by omega), show 0 + (w.length + i - w.length) = i by omega]
    exact u8 i hi) g3 ⟨ml, e7⟩ e6, ⟨?_, ?_, fun p' hp p1 p2 => ?_, r5, r6⟩, r7⟩
  · have hgb : f_String_getBytes p a' (nI w.length) 0 g1 = some ((), g2) := by
      unfold f_String_getBytes
      rw [ze_b u1, ze_b2 hcod, if_neg (fun x => x rfl), ze_b u3, ze_b u3, ze_b u4, (zsh0 w.length (by omega)).2, ze_b n1]
    have hput : f_AbstractStringBuilder_putStringAt q (nI w.length) p g1 = some ((), g2) := by
      unfold f_AbstractStringBuilder_putStringAt f_AbstractStringBuilder_inflateIfNeededFor
      rw [ze_b (zh_is e2)]
      have hi : (if (1 : Int32) = 0 then some ((), g1) else zf_b (zf_I 1 1 q g1) fun v1 => zf_b (zf_is 0 p g1) fun _ => zf_b2 (f_String_coder p g1) fun v2 h3 => if v1 = v2 then some ((), h3) else zf_b (zf_is 1 q h3) fun _ => zf_b2 (f_AbstractStringBuilder_inflate q h3) fun _ h5 => some ((), h5)) = some ((), g1) := by
        rw [if_neg (by decide), ze_b (zh_I e2 rfl), ze_b u1, ze_b2 hcod, if_pos rfl]
      first
        | rw [ze_b2 hi, ze_b (zh_A e2 rfl), ze_b (zh_I e2 rfl), ze_b u1, ze_b2 hgb]
        | rw [ze_b (zh_I e2 rfl), ze_b u1, ze_b2 hcod, if_pos rfl, ze_b2 rfl, ze_b (zh_A e2 rfl), ze_b (zh_I e2 rfl), ze_b u1, ze_b2 hgb]
    unfold f_StringBuilder_appendq3 f_AbstractStringBuilder_appendq3
    rw [ze_b (zh_is i1)]
    refine ze_b2 (a := q) (g := g3) ?_
    rw [ze_b t1, ze_b2 hsl, ze_b (zh_I i1 rfl), ze_b (zh_is i1), nI_add, ze_b2 e1, ze_b (zh_I e2 rfl), ze_b (zh_is e2), ze_b2 hput, ze_b (zh_I e5 rfl), nI_add, ← hlen, ze_b n2]
  · rw [← hg3, List.length_set, ← hg2, List.length_set]; exact r2
  · have : zM g3 = zM g1 := by
      unfold zM
      rw [← hg3, zh_set_sz (c' := .inr (1, [.ref a', .int 0, .int ml, .int (nI (w ++ u).length)])) e5 rfl, List.length_set, ← hg2, zh_set_sz (c' := .inl (3, m', .inl (va_cpy uf f 0 w.length u.length))) e3 rfl, List.length_set]
    rw [this]; exact r3
  · have : p' ≠ a' := by rcases r5 with x | x <;> omega
    rw [← hg3, zh_set_n (Ne.symm p1), ← hg2, zh_set_n (Ne.symm this)]
    exact r4 p' hp p1 p2
end ZSC
