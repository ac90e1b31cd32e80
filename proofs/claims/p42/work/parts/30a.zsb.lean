/-! ===== texts: String and StringBuilder ===== -/
section ZSB
/-- everything stays but builders and byte arrays; g has k more at most -/
def zNb : zx_E → Prop
  | .inr (1, _) => False
  | .inl (3, _, _) => False
  | _ => True
def zGt (k : Nat) (h g : zx_H) : Prop := h.length ≤ g.length ∧ zM g ≤ zM h + k ∧ ∀ (p : Nat) (c : zx_E), h[p]? = some c → zNb c → g[p]? = some c
variable {h g j : zx_H} {k k' : Nat}
theorem zGt.refl : zGt 0 h h := ⟨Nat.le_refl _, Nat.le_refl _, fun _ _ e _ => e⟩
theorem zGt.t (x : zGt k h g) (y : zGt k' g j) : zGt (k + k') h j := ⟨Nat.le_trans x.1 y.1, by have := x.2.1; have := y.2.1; omega, fun p c e n => y.2.2 p c (x.2.2 p c e n) n⟩
theorem zGt.w (x : zGt k h g) (hk : k ≤ k') : zGt k' h g := ⟨x.1, by have := x.2.1; omega, x.2.2⟩
theorem zGt_of {k : Nat} (x : zG k 0 0 h g) : zGt k h g := ⟨x.1, x.2.1, fun p c e _ => x.gt e (Or.inr (Nat.zero_le _))⟩
theorem zGt.gt (x : zGt k h g) {p : Nat} {c : zx_E} (e : h[p]? = some c) (n : zNb c) : g[p]? = some c := x.2.2 p c e n
theorem zGt.m (x : zGt k h g) : zM g ≤ zM h + k := x.2.1
theorem zGt.l (x : zGt k h g) : h.length ≤ g.length := x.1
/-- a builder at q, its bytes at a, m of them; its text w -/
def zSB (h : zx_H) (q a m : Nat) (w : List Nat) : Prop := ∃ (ml : Int32) (f : Nat → Int32), h[q]? = some (.inr (1, [.ref a, .int 0, .int ml, .int (nI w.length)])) ∧ h[a]? = some (.inl (3, m, .inl f)) ∧ w.length ≤ m ∧ m ≤ 20000 ∧ zx_fb f 0 m = true ∧ (∀ i, i < w.length → f i = nI (w.getD i 0)) ∧ ∀ c ∈ w, c < 128
theorem zSB.len {q a m : Nat} {w : List Nat} (s : zSB h q a m w) : w.length ≤ m ∧ m ≤ 20000 := by
  obtain ⟨ml, f, _, _, h1, h2, _⟩ := s
  exact ⟨h1, h2⟩
theorem zSB.ne {q a m : Nat} {w : List Nat} (s : zSB h q a m w) : q ≠ a := by
  obtain ⟨ml, f, h1, h2, _⟩ := s
  rintro rfl
  rw [h1] at h2
  cases h2
theorem zfb_all {f : Nat → Int32} {m : Nat} (h : zx_fb f 0 m = true) {i : Nat} (hi : i < m) : fits .byte (.int (f i)) = true := by
  have := zx_fb_ok h i hi
  rw [Nat.zero_add] at this
  exact this
theorem zfb_mk {f : Nat → Int32} {m : Nat} (h : ∀ i, i < m → fits .byte (.int (f i)) = true) : zx_fb f 0 m = true := by
  unfold zx_fb
  rw [List.all_eq_true]
  intro i hi
  rw [Nat.zero_add]
  exact h i (List.mem_range.mp hi)
theorem zfb_c : ∀ c, c < 128 → fits .byte (.int (nI c)) = true := by decide +kernel
theorem zfb_c2 : ∀ c, c < 128 → vp_nar .byte ((nI c).toInt8.toInt32) = nI c ∧ (nI c).toInt8.toInt32 = nI c ∧ vp_nar .byte (nI c) = nI c := by decide +kernel
theorem zsh0 (m : Nat) (h : m < 2 ^ 31) : nI m >>> ((0 : Int32) &&& 31) = nI m ∧ nI m <<< ((0 : Int32) &&& 31) = nI m := by
  refine ⟨sc_shr0 h, ?_⟩
  have := pk_shlN (n := m) ((0 : Int32) &&& 31) 0 (by decide) (by omega)
  rw [Nat.pow_zero, Nat.mul_one] at this
  exact this
theorem zh_stB {q n i : Nat} {f : Nat → Int32} {x : Int32} (e : h[q]? = some (.inl (3, n, .inl f))) (hi : i < n) (hn : n < 2 ^ 31) : zf_stB q (nI i) x h = some (h.set q (.inl (3, n, .inl (upd f i (vp_nar .byte x))))) := by
  unfold zf_stB; rw [e]
  have h1 : ¬ (zt_at[3]? = some .boolean ∧ zx_in (nI i) n) := fun x => by
    have := x.1
    cases this
  have h2 : zt_at[3]? = some .byte ∧ zx_in (nI i) n := ⟨rfl, vp_in_nI hi hn⟩
  show (if _ then _ else if _ then _ else _) = _
  rw [if_neg h1, if_pos h2, nI_clamp (Nat.lt_trans hi hn)]
theorem zh_ldB {q n i : Nat} {f : Nat → Int32} (e : h[q]? = some (.inl (3, n, .inl f))) (hi : i < n) (hn : n < 2 ^ 31) : zf_ldB q (nI i) h = some (f i) := by
  unfold zf_ldB; rw [e]
  have h1 : (zt_at[3]? = some .boolean ∨ zt_at[3]? = some .byte) ∧ zx_in (nI i) n := ⟨Or.inr rfl, vp_in_nI hi hn⟩
  show (if _ then _ else _) = _
  rw [if_pos h1, nI_clamp (Nat.lt_trans hi hn)]
theorem zh_cpyB {q0 q1 n0 n1 n sp dp : Nat} {f g : Nat → Int32} (e0 : h[q0]? = some (.inl (3, n0, .inl f))) (e1 : h[q1]? = some (.inl (3, n1, .inl g))) (hf : zx_fb f sp n = true) (h0 : sp + n ≤ n0) (h1 : dp + n ≤ n1) (hn : n0 < 2 ^ 31) (hn1 : n1 < 2 ^ 31) : zf_cpy q0 (nI sp) q1 (nI dp) (nI n) h = some (h.set q1 (.inl (3, n1, .inl (va_cpy f g sp dp n)))) := by
  unfold zf_cpy
  rw [e0, e1]
  have c1 := nI_clamp (n := n) (by omega)
  have c2 := nI_clamp (n := sp) (by omega)
  have c3 := nI_clamp (n := dp) (by omega)
  show (if _ then _ else _) = _
  rw [if_pos]
  · rw [c1, c2, c3]
  · exact ⟨rfl, Or.inr ⟨rfl, by rw [c1, c2]; exact hf⟩, nI_pos (by omega), nI_pos (by omega), nI_pos (by omega), by rw [c1, c2]; exact h0, by rw [c1, c3]; exact h1⟩
theorem zh_newB {n : Nat} (hn : n ≤ 200000) (hl : h.length < zx_lim) : zf_newa .byte 3 (nI n) h = some (h.length, h ++ [.inl (3, n, .inl fun _ => 0)]) := by
  unfold zf_newa
  have h1 : ¬ nI n < 0 ∧ n * componentBytes .byte ≤ 536870912 ∧ h.length < zx_lim := ⟨nI_pos (by omega), by show n * 1 ≤ _; omega, hl⟩
  rw [nI_clamp (by omega)]
  show (if _ then _ else _) = _
  rw [if_pos h1]
theorem zdef1 : zx_def 1 = [.null, .int 0, .int 0, .int 0] := by with_unfolding_all rfl
theorem zdef0 : zx_def 0 = [.null, .int 0, .int 0, .int 0] := by with_unfolding_all rfl
/-- an empty builder -/
theorem zSB_new (hB : zM h ≤ 7000000) : ∃ g, (zf_b2 (zf_new 1 h) fun q h2 => zf_b2 (f_StringBuilder_init q h2) fun _ h4 => some (q, h4)) = some (h.length, g) ∧ zSB g h.length (h.length + 1) 16 [] ∧ zG 48 0 0 h g ∧ g.length = h.length + 2 := by
  have hl := zlim (h := h) (by omega)
  have hl' := zlen (h := h) (by omega)
  generalize hg1 : h ++ [.inr (1, zx_def 1)] = g1
  have l1 : g1.length = h.length + 1 := by rw [← hg1, List.length_append]; rfl
  have G1 : zG 16 0 0 h g1 := by rw [← hg1]; exact zG_app (c := .inr (1, zx_def 1))
  have e1 : g1[h.length]? = some (.inr (1, [.null, .int 0, .int 0, .int 0])) := by rw [← hg1, zdef1]; exact zG_end
  have n2 := zh_newB (h := g1) (n := 16) (by decide) (by rw [l1]; show _ < 1000000; omega)
  generalize hg2 : g1 ++ [.inl (3, 16, .inl fun _ => 0)] = g2 at n2
  have l2 : g2.length = h.length + 2 := by rw [← hg2, List.length_append, l1]; rfl
  have G2 : zG 28 0 0 g1 g2 := by rw [← hg2]; exact zG_app (c := .inl (3, 16, .inl fun _ => 0))
  have e2 : g2[h.length + 1]? = some (.inl (3, 16, .inl fun _ => 0)) := by rw [← hg2, ← l1]; exact zG_end
  have e3 := G2.gt e1 (Or.inr (Nat.zero_le _))
  have r3 := zh_put (k := 0) (v := .ref (h.length + 1)) e3 (by show _ < 4; decide)
  generalize hg3 : g2.set h.length (.inr (1, [.ref (h.length + 1), .int 0, .int 0, .int 0])) = g3
  have r3 : zf_put 1 0 h.length (.ref (h.length + 1)) g2 = some g3 := r3.trans (congrArg some hg3)
  have s3 : g3[h.length]? = some (.inr (1, [.ref (h.length + 1), .int 0, .int 0, .int 0])) := by rw [← hg3]; exact zh_set_s e3
  have r4 := zh_put (k := 1) (v := .int 0) s3 (by show _ < 4; decide)
  have hs4 : g3.set h.length (.inr (1, [.ref (h.length + 1), .int 0, .int 0, .int 0])) = g3 := by
    rw [← hg3, List.set_set]
  have r4 : zf_put 1 1 h.length (.int 0) g3 = some g3 := r4.trans (congrArg some hs4)
  have s4 : g3[h.length + 1]? = some (.inl (3, 16, .inl fun _ => 0)) := by rw [← hg3, zh_set_n (by omega)]; exact e2
  refine ⟨g3, ?_, ⟨0, fun _ => 0, s3, s4, by decide, by decide, by decide +kernel, fun i hi => absurd hi (Nat.not_lt_zero _), fun c hc => absurd hc List.not_mem_nil⟩, ?_, by rw [← hg3, List.length_set]; exact l2⟩
  · rw [ze_b2 (zh_newO hl), hg1]
    unfold f_StringBuilder_init f_AbstractStringBuilder_init
    rw [if_neg (by decide), show (16 : Int32) = nI 16 from rfl, ze_b2 (ze_b2 n2 |>.trans (by rw [l1, ze_b r3, ze_b r4]))]
    rfl
  · have l3 : g3.length = g2.length := by rw [← hg3, List.length_set]
    have m3 : zM g3 = zM g2 := by
      unfold zM
      rw [l3, ← hg3, zh_set_sz (c' := .inr (1, [.ref (h.length + 1), .int 0, .int 0, .int 0])) e3 rfl]
    refine ⟨by omega, by have := G1.m; have := G2.m; omega, fun p hp _ => ?_⟩
    rw [← hg3, zh_set_n (by omega), G2.2.2 p (by omega) (Or.inr (Nat.zero_le _)), G1.2.2 p hp (Or.inr (Nat.zero_le _))]
/-- room for n letters -/
theorem zSB_room {q a m : Nat} {w : List Nat} (s : zSB h q a m w) {n : Nat} (hn : n ≤ 10000) (hB : zM h ≤ 7000000) : ∃ g a' m', f_AbstractStringBuilder_ensureCapacityInternal q (nI n) h = some ((), g) ∧ zSB g q a' m' w ∧ n ≤ m' ∧ h.length ≤ g.length ∧ zM g + 2 * m ≤ zM h + 2 * m' + 10 ∧ (∀ p, p < h.length → p ≠ q → p ≠ a → g[p]? = h[p]?) ∧ (a' = a ∨ h.length ≤ a') ∧ m ≤ m' ∧ (m' ≤ m ∨ m' ≤ 2 * n) := by
  have hl := zlim (h := h) (by omega)
  have hl' := zlen (h := h) (by omega)
  have hqa := s.ne
  obtain ⟨ml, f, e1, e2, h1, h2, h3, h4, h5⟩ := s
  have hne : a ≠ zx_lim := by
    have := zlt_of e2
    show a ≠ 1000000
    omega
  have e3 := zh_len hne e2 rfl
  obtain ⟨b1, b2⟩ := zsh0 m (by omega)
  unfold f_AbstractStringBuilder_ensureCapacityInternal
  have hc : nI n - nI m ≤ 0 ↔ n ≤ m := by
    rw [zi_e, pk_sub_toInt (by omega) (by omega)]
    show (n : Int) - m ≤ 0 ↔ _
    omega
  rw [ze_b (zh_A e1 rfl), ze_b e3, ze_b (zh_I e1 rfl), b1]
  by_cases hnm : n ≤ m
  · rw [if_pos (hc.mpr hnm)]
    exact ⟨h, a, m, rfl, ⟨ml, f, e1, e2, h1, h2, h3, h4, h5⟩, hnm, Nat.le_refl _, by omega, fun _ _ _ _ => rfl, Or.inl rfl, Nat.le_refl _, Or.inl (Nat.le_refl _)⟩
  · rw [if_neg (fun x => hnm (hc.mp x)), ze_b (zh_A e1 rfl), ze_b (zh_is e1)]
    -- the new capacity
    have ecap : ∃ m', f_AbstractStringBuilder_newCapacity q (nI n) h = some (nI m', h) ∧ n ≤ m' ∧ 2 * m + 2 ≤ m' ∧ m' ≤ 20000 ∧ m' ≤ 2 * n := by
      refine ⟨m + (if n - m < m + 2 then m + 2 else n - m), ?_, ?_⟩
      · unfold f_AbstractStringBuilder_newCapacity f_ArraysSupport_newLength
        have c1 : nI n <<< ((0 : Int32) &&& 31) = nI n := (zsh0 n (by omega)).2
        have c2 : (2 : Int32) <<< ((0 : Int32) &&& 31) = nI 2 := by decide
        have c3 : nI n - nI m = nI (n - m) := pk_sub (by omega)
        have c4 : (if nI (n - m) < nI (m + 2) then nI (m + 2) else nI (n - m)) = nI (if n - m < m + 2 then m + 2 else n - m) := by
          by_cases c : n - m < m + 2
          · rw [if_pos c, if_pos (nI_lt c (by omega))]
          · rw [if_neg c, if_neg (nI_nlt (by omega) (by omega))]
        rw [ze_b (zh_A e1 rfl), ze_b e3, ze_b (zh_I e1 rfl), ze_b (zh_I e1 rfl), c1, c2, c3, nI_add, c4, nI_add]
        generalize hx : (if n - m < m + 2 then m + 2 else n - m) = x
        have hx2 : 1 ≤ m + x ∧ m + x ≤ 20000 := by
          rw [← hx]
          by_cases c : n - m < m + 2
          · rw [if_pos c]; omega
          · rw [if_neg c]; omega
        rw [if_neg (show ¬ nI (m + x) ≤ 0 from nI_nle (by omega) (by omega)), if_neg (show ¬ (2147483639 : Int32) < nI (m + x) from nI_nlt (a := 2147483639) (by omega) (by decide)), ze_b2 rfl, if_pos (by rw [show (2147483647 : Int32) = nI 2147483647 from rfl, nI_eq (by omega) (by decide)]; omega), ze_b (zh_I e1 rfl), (zsh0 (m + x) (by omega)).1]
      · by_cases c : n - m < m + 2
        · rw [if_pos c]; omega
        · rw [if_neg c]; omega
    obtain ⟨m', ec, m1, m2, m3, m4⟩ := ecap
    have c1 := (zsh0 m' (by omega)).2
    have n4 := zh_newB (h := h) (n := m') (by omega) hl
    generalize hg4 : h ++ [.inl (3, m', .inl fun _ => 0)] = g4 at n4
    have G4 : zG (12 + m') 0 0 h g4 := by rw [← hg4]; exact zG_app (c := .inl (3, m', .inl fun _ => 0))
    have l4 : g4.length = h.length + 1 := by rw [← hg4, List.length_append]; rfl
    have e4 : g4[h.length]? = some (.inl (3, m', .inl fun _ => 0)) := by rw [← hg4]; exact zG_end
    have e5 := G4.gt e2 (Or.inr (Nat.zero_le _))
    have e6 := G4.gt e1 (Or.inr (Nat.zero_le _))
    have ha := zlt_of e2
    have hq := zlt_of e1
    have n5 := zh_cpyB (h := g4) (sp := 0) (dp := 0) (n := m) e5 e4 h3 (by omega) (by omega) (by omega) (by omega)
    generalize hg5 : g4.set h.length (.inl (3, m', .inl (va_cpy f (fun _ => 0) 0 0 m))) = g5 at n5
    have e7 : g5[h.length]? = some (.inl (3, m', .inl (va_cpy f (fun _ => 0) 0 0 m))) := by rw [← hg5]; exact zh_set_s e4
    have e8 : g5[q]? = some (.inr (1, [.ref a, .int 0, .int ml, .int (nI w.length)])) := by rw [← hg5, zh_set_n (by omega)]; exact e6
    have n6 := zh_put (k := 0) (v := .ref h.length) e8 (by show _ < 4; decide)
    generalize hg6 : g5.set q (.inr (1, [.ref h.length, .int 0, .int ml, .int (nI w.length)])) = g6
    have n6 : zf_put 1 0 q (.ref h.length) g5 = some g6 := n6.trans (congrArg some hg6)
    have eo : f_Arrays_copyOf a (nI m') h = some (h.length, g5) := by
      unfold f_Arrays_copyOf
      rw [ze_b e3, if_pos (by rw [nI_eq (by omega) (by omega)]; omega), ze_b2 n4, ze_b (zh_len hne e5 rfl), if_neg (nI_nlt (by omega) (by omega))]
      rw [show (0 : Int32) = nI 0 from rfl, ze_b n5]
    refine ⟨g6, h.length, m', ?_, ⟨ml, _, by rw [← hg6]; exact zh_set_s e8, by rw [← hg6, zh_set_n (by omega)]; exact e7, by omega, by omega, zfb_mk fun i hi => ?_, fun i hi => ?_, h5⟩, m1, ?_, ?_, fun p hp p1 p2 => ?_, Or.inr (Nat.le_refl _), by omega, Or.inr m4⟩
    · rw [ze_b2 ec, ze_b (zh_I e1 rfl), c1, ze_b2 eo, ze_b n6]
    · by_cases c : i < m
      · rw [pk_cpy_in (Nat.zero_le _) (by omega)]
        have := zfb_all h3 c
        simpa using this
      · rw [pk_cpy_out (by omega)]; decide
    · rw [pk_cpy_in (Nat.zero_le _) (by omega)]
      have := h4 i hi
      simpa using this
    · rw [← hg6, List.length_set, ← hg5, List.length_set, l4]; omega
    · have : zM g6 = zM g4 := by
        unfold zM
        rw [← hg6, zh_set_sz (c' := .inr (1, [.ref h.length, .int 0, .int ml, .int (nI w.length)])) e8 rfl, List.length_set, ← hg5, zh_set_sz (c' := .inl (3, m', .inl (va_cpy f (fun _ => 0) 0 0 m))) e4 rfl, List.length_set]
      rw [this]
      have := G4.m
      omega
    · rw [← hg6, zh_set_n (Ne.symm p1), ← hg5, zh_set_n (by omega), G4.2.2 p hp (Or.inr (Nat.zero_le _))]
end ZSB
