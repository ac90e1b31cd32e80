/-! ===== appending in the law's world, more ===== -/
section ZLB
variable {h g : zx_H}
theorem zSB_int2 {q a m : Nat} {w : List Nat} (s : zSB h q a m w) {n : Nat} {neg : Bool} (hn : n < 10 ^ 8) (h0 : neg = true → 1 ≤ n) (hw : w.length < 8900) (hB : zM h ≤ 7000000) : ∃ g a' m' ds, f_StringBuilder_appendq2 q (if neg = true then -nI n else nI n) h = some (q, g) ∧ zSB g q a' m' (w ++ znum neg ds) ∧ zSt h g q a a' m m' ∧ (m' ≤ m ∨ m' ≤ 2 * (w.length + 9)) ∧ (∀ c ∈ ds, 48 ≤ c ∧ c ≤ 57) ∧ ds ≠ [] ∧ zvf ds 0 = n ∧ ds.length ≤ 8 ∧ (ds.length = 1 ∨ 10 ^ (ds.length - 1) ≤ n) := by
  have hn' : n < 100000000 := hn
  obtain ⟨sz, e1, s1, s8, s2, s3⟩ := zsize (h := h) hn (zbn1 neg) (by cases neg <;> decide) zF 1 (Nat.le_refl _) (by decide) (by decide) (Or.inl rfl)
  have es : f_Integer_stringSize (if neg = true then -nI n else nI n) h = some (nI (sz + zbn1 neg), h) := by
    unfold f_Integer_stringSize
    cases neg with
    | true =>
      have hneg : -nI n < 0 := by
        rw [zi_t, zng_t (by omega), show ((0 : Int32)).toInt = 0 by decide]
        have := h0 rfl
        omega
      rw [if_pos rfl, if_pos hneg]
      exact e1
    | false =>
      rw [if_neg (show ¬ (false = true) by decide), if_neg (nI_pos (by omega))]
      exact e1
  have hz1 : zbn1 neg ≤ 1 := by cases neg <;> decide
  obtain ⟨g1, a', m', r1, s4, t1, t2, t3, t4, t5, t6, t7⟩ := zSB_room s (n := w.length + (sz + zbn1 neg)) (by omega) hB
  have f0 := zfv0 s4
  have hne := s4.ne
  have s4' := s4
  have hl4 := s4.len
  obtain ⟨ml0, f9, i1, _⟩ := s
  obtain ⟨ml, f, e2, e3, b1, b2, b3, b4, b5⟩ := s4
  have ha := zlt_of e3
  have hlg := zlen (h := g1) (by omega)
  obtain ⟨ds, f', c1, c2, c3, c4, c5, c6, c7, c8, c9, c10⟩ := zgetC (a := a') (m := m') (by omega) b2 neg zF sz n (w.length + (sz + zbn1 neg)) g1 f e3 hlg s2 (by omega) s1 (by unfold zF; omega) (by omega) (by omega)
  have hds : ds.length = sz := zpow_one c6 c7 s2 s3 c4 s1
  have hnl : (znum neg ds).length = sz + zbn1 neg := by rw [znum_len, hds]
  generalize hg2 : g1.set a' (.inl (3, m', .inl f')) = g2 at c1
  have e4 : g2[a']? = some (.inl (3, m', .inl f')) := zh_set_r e3 hg2
  have e5 : g2[q]? = some (.inr (1, [.ref a', .int 0, .int ml, .int (nI w.length)])) := zh_set_k hg2 (fun x => hne x.symm) e2
  have n2 := zh_put (k := 3) (v := .int (nI (w ++ znum neg ds).length)) e5 (by show _ < 4; decide)
  generalize hg3 : g2.set q (.inr (1, [.ref a', .int 0, .int ml, .int (nI (w ++ znum neg ds).length)])) = g3
  have n2 : zf_put 1 3 q (.int (nI (w ++ znum neg ds).length)) g2 = some g3 := n2.trans (congrArg some hg3)
  have hlen : (w ++ znum neg ds).length = w.length + (sz + zbn1 neg) := by rw [List.length_append, hnl]
  have c1' : f_Integer_getChars (if neg = true then -nI n else nI n) (nI (w.length + (sz + zbn1 neg))) a' g1 = some (nI (w.length + (sz + zbn1 neg) - ds.length - zbn1 neg), g2) := by
    unfold f_Integer_getChars
    cases neg with
    | true =>
      have hneg : ¬ (0 : Int32) ≤ -nI n := by
        rw [zi_e, zng_t (by omega), show ((0 : Int32)).toInt = 0 by decide]
        have := h0 rfl
        omega
      rw [if_pos rfl, if_neg hneg, if_pos (by decide)]
      exact c1
    | false =>
      rw [if_neg (show ¬ (false = true) by decide), if_pos (nI_pos' (by omega)), if_neg (by decide)]
      exact c1
  refine ⟨g3, a', m', ds, ?_, zSB_put s4' (u := znum neg ds) (by rw [hnl]; exact t1) (fun c hc => ?_) (f2 := f') (e2 := .inr (0, [])) ⟨ml, f, e2, e3, fun i hi => c10 i (Or.inl (by omega)), fun i hi => c10 i (Or.inr (by rw [hnl] at hi; exact hi))⟩ (fun i hi => ?_) g3 ⟨ml, zh_set_r e5 hg3⟩ (zh_set_k hg3 hne e4), ⟨?_, ?_, fun p hp p1 p2 => ?_, t5, t6⟩, ?_, c2, fun x => by rw [x] at c4; exact absurd c4 (by decide), c3, by omega, c7⟩
  · unfold f_StringBuilder_appendq2 f_AbstractStringBuilder_appendq2
    rw [ze_b (zh_is i1)]
    refine ze_b2 (a := q) (g := g3) ?_
    rw [ze_b (zh_I i1 rfl), ze_b2 es, ze_b (zh_is i1), nI_add, ze_b2 r1, ze_b2 f0, if_neg (by decide), ze_b (zh_A e2 rfl), ze_b2 c1', ← hlen, ze_b n2]
  · cases neg with
    | true =>
      rcases List.mem_cons.mp hc with rfl | hc
      · decide
      · have := c2 c hc
        omega
    | false =>
      have := c2 c hc
      omega
  · rw [hnl] at hi
    cases neg with
    | true =>
      cases i with
      | zero =>
        have := c9 rfl
        rw [hds, show w.length + (sz + zbn1 true) - sz - 1 = w.length + 0 by show w.length + (sz + 1) - sz - 1 = _; omega] at this
        exact this
      | succ i =>
        have hi : i + 1 < sz + 1 := hi
        have := c8 i (by omega)
        rw [hds, show w.length + (sz + zbn1 true) - sz + i = w.length + (i + 1) by show w.length + (sz + 1) - sz + i = _; omega] at this
        exact this
    | false =>
      have hi : i < sz + 0 := hi
      have := c8 i (by omega)
      rw [hds, show w.length + (sz + zbn1 false) - sz + i = w.length + i by show w.length + (sz + 0) - sz + i = _; omega] at this
      exact this
  · rw [← hg3, List.length_set, ← hg2, List.length_set]; exact t2
  · have : zM g3 = zM g1 := by
      unfold zM
      rw [← hg3, zh_set_sz (c' := .inr (1, [.ref a', .int 0, .int ml, .int (nI (w ++ znum neg ds).length)])) e5 rfl, List.length_set, ← hg2, zh_set_sz (c' := .inl (3, m', .inl f')) e3 rfl, List.length_set]
    rw [this]; exact t3
  · have : p ≠ a' := by rcases t5 with x | x <;> omega
    rw [← hg3, zh_set_n (Ne.symm p1), ← hg2, zh_set_n (Ne.symm this)]
    exact t4 p hp p1 p2
  · rcases t7 with x | x
    · exact Or.inl x
    · exact Or.inr (by omega)
end ZLB
section ZLC
variable {h g j : zx_H} {now : Nat} {ver : Nat → Nat → zT} {tx : List Nat} {pr : Nat × (Nat → Nat) × (Nat → Int32)} {gr : zT × Nat × Nat × (Nat → Int64) × (Nat → Nat → Bool)} {q pt a m p c k : Nat} {w u : List Nat}
theorem zd1 {n : Nat} {ds : List Nat} (hn : n < 10) (hd : ∀ c ∈ ds, 48 ≤ c ∧ c ≤ 57) (h0 : ds ≠ []) (hv : zvf ds 0 = n) (hl : ds.length = 1 ∨ 10 ^ (ds.length - 1) ≤ n) : ds = [48 + n] := by
  have h1 : ds.length = 1 := by
    rcases hl with x | x
    · exact x
    · refine Classical.byContradiction fun y => ?_
      have h2 : ds.length ≠ 0 := fun z => h0 (List.length_eq_zero_iff.mp z)
      have h3 : 10 ^ 1 ≤ 10 ^ (ds.length - 1) := Nat.pow_le_pow_right (by decide) (by omega)
      omega
  cases ds with
  | nil => exact absurd rfl h0
  | cons d s =>
    have : s = [] := List.length_eq_zero_iff.mp (by rw [List.length_cons] at h1; omega)
    subst this
    have hv : 0 * 10 + (d - 48) = n := hv
    have := hd d (List.mem_cons_self ..)
    rw [show d = 48 + n by omega]
theorem zLw.fr (x : zLw h now ver tx pr gr q a m w pt c) (G : zG k 0 0 h g) : zLw g now ver tx pr gr q a m w pt c ∧ zLf k q pt a m a m h g := x.G (zG0 G) (x.1.G G (Or.inr rfl))
/-- a text shorter than the builder's bytes can't be the builder's own -/
theorem zLw.str2 (x : zLw h now ver tx pr gr q a m w pt c) (l : zStr h p u) (hu : u.length < 16) (hm : 16 ≤ m) (hw : w.length + u.length ≤ 9000) (hB : zM h ≤ 7000000) : ∃ g a' m', f_StringBuilder_appendq3 q p h = some (q, g) ∧ zLw g now ver tx pr gr q a' m' (w ++ u) pt c ∧ zLf 10 q pt a m a' m' h g ∧ (m' ≤ m ∨ m' ≤ 2 * (w.length + u.length)) := by
  obtain ⟨ml, f, c1, c2, hr⟩ := x.2.2.1
  obtain ⟨b, x1, y1, f1, e1, e2, h1⟩ := id l
  refine x.str l hw hB ⟨fun e => ?_, fun e => ?_⟩ fun b' x' y' e => ?_
  · rw [e, c1] at e1; cases e1
  · rw [e, c2] at e1; cases e1
  · rw [e1] at e
    have eb : b = b' := by cases e; rfl
    rw [← eb]
    refine ⟨fun z => ?_, fun z => ?_⟩
    · rw [z, c1] at e2; cases e2
    · rw [z, c2] at e2
      have : m = u.length := by cases e2; rfl
      omega
/-- one digit -/
theorem zLw.dig (x : zLw h now ver tx pr gr q a m w pt c) {n : Nat} (hn : n < 10) (hw : w.length < 8900) (hB : zM h ≤ 7000000) : ∃ g a' m', f_StringBuilder_appendq2 q (nI n) h = some (q, g) ∧ zLw g now ver tx pr gr q a' m' (w ++ [48 + n]) pt c ∧ zLf 10 q pt a m a' m' h g ∧ (m' ≤ m ∨ m' ≤ 2 * (w.length + 9)) := by
  obtain ⟨g, a', m', ds, e, sb, st, hm, r1, r2, r3, r4, r5⟩ := zSB_int2 x.2.2.1 (neg := false) (n := n) (by omega) (fun y => absurd y (by decide)) hw hB
  obtain ⟨x2, f2⟩ := x.app sb st
  have e2 : ds = [48 + n] := zd1 hn r1 r2 r3 r5
  subst e2
  exact ⟨g, a', m', e, x2, f2, hm⟩
theorem zSB_new2 (hB : zM h ≤ 7000000) : ∃ h2 g, zf_new 1 h = some (h.length, h2) ∧ f_StringBuilder_init h.length h2 = some ((), g) ∧ zSB g h.length (h.length + 1) 16 [] ∧ zG 48 0 0 h g ∧ g.length = h.length + 2 := by
  obtain ⟨g0, e0, s0, G0, l0⟩ := zSB_new (h := h) hB
  have hl := zlim (h := h) (by omega)
  rw [ze_b2 (zh_newO hl)] at e0
  refine ⟨_, g0, zh_newO hl, ?_, s0, G0, l0⟩
  cases hx : f_StringBuilder_init h.length (h ++ [.inr (1, zx_def 1)]) with
  | none => rw [hx] at e0; cases e0
  | some r =>
    obtain ⟨u, g'⟩ := r
    rw [hx] at e0
    have e0 : some (h.length, g') = some (h.length, g0) := e0
    cases e0
    rfl
theorem zSB.is {q a m : Nat} {w : List Nat} (s : zSB h q a m w) : zf_is 1 q h = some () := by
  obtain ⟨ml, f, e1, _⟩ := s
  exact zh_is e1
/-- what a builder of its own, made since h, leaves of h -/
theorem zSt.fr {h0 : zx_H} {a' m' : Nat} (G : zG k 0 0 h0 h) (st : zSt h g q a a' m m') (hq : h0.length ≤ q) (ha : h0.length ≤ a) : zG (k + 2 * m' + 10) 0 0 h0 g := by
  obtain ⟨s1, s2, s3, s4, s5⟩ := st
  have hl := G.l
  have hm := G.m
  exact ⟨by omega, by omega, fun p hp _ => by rw [s3 p (by omega) (by omega) (by omega), G.2.2 p hp (Or.inr (Nat.zero_le _))]⟩
/-- "" + a number, as a text -/
theorem zNstr (hB : zM h ≤ 6900000) {n : Nat} {neg : Bool} (hn : n ≤ 1000000) (h0 : neg = true → 1 ≤ n) : ∃ h2 h3 h4 h5 g r s, zf_new 1 h = some (h.length, h2) ∧ f_StringBuilder_init h.length h2 = some ((), h3) ∧ zf_is 1 h.length h3 = some () ∧ f_StringBuilder_appendq3 h.length (zx_lim + 1 + 604) h3 = some (h.length, h4) ∧ zG 90 0 0 h h4 ∧ zf_is 1 h.length h4 = some () ∧ f_StringBuilder_appendq5 h.length (if neg = true then -lN n else lN n) h4 = some (h.length, h5) ∧ zf_is 1 h.length h5 = some () ∧ f_StringBuilder_toString h.length h5 = some (r, g) ∧ zStr g r s ∧ zVs 0 (if neg = true then -lN n else lN n) s ∧ zG 250 0 0 h g := by
  obtain ⟨h2, h3, n1, n2, s3, G3, l3⟩ := zSB_new2 (h := h) (by omega)
  have m3 := G3.m
  obtain ⟨h4, a4, k4, e4, s4, st4, b4⟩ := zSB_str s3 (u := []) (p := zx_lim + 1 + 604) (fun g _ hg _ => zl_604.tx (zlen (h := g) (by omega))) (by decide) (by omega)
  have hk4 : k4 = 16 := by
    have c1 := st4.2.2.2.2
    have c2 : k4 ≤ 16 ∨ k4 ≤ 0 := b4
    omega
  subst hk4
  have ha4 : h.length ≤ a4 := by
    have c1 := st4.2.2.2.1
    omega
  have G4 : zG 90 0 0 h h4 := (st4.fr G3 (Nat.le_refl _) (by omega)).w (by omega) (Nat.le_refl _) (Nat.le_refl _)
  have m4 := G4.m
  have mm4 : zM h4 ≤ zM h + 58 := by
    have c1 := st4.2.1
    omega
  rw [List.append_nil] at s4
  obtain ⟨h5, a5, k5, ds, e5, s5, st5, b5, d1, d2, d3, d4⟩ := zSB_long s4 (n := n) (neg := neg) (by omega) h0 (by decide) (by omega)
  have ha5 : h.length ≤ a5 := by
    have c1 := st5.2.2.2.1
    have c2 := G4.l
    omega
  have hk5 : k5 ≤ 18 := by
    have c2 : k5 ≤ 16 ∨ k5 ≤ 18 := b5
    omega
  have G5 : zG (90 + 2 * k5 + 10) 0 0 h h5 := st5.fr G4 (Nat.le_refl _) ha4
  have m5 : zM h5 ≤ zM h + 58 + 2 * k5 + 10 - 32 := by
    have c1 := st5.2.1
    omega
  obtain ⟨g, e6, t6, G6, _⟩ := zSB_toS s5 (by omega)
  have m6 := G6.m
  refine ⟨h2, h3, h4, h5, g, h5.length, znum neg ds, n1, n2, s3.is, e4, G4, s4.is, e5, s5.is, e6, t6, zVs_num d1 d2 d3 hn d4, ?_⟩
  refine ⟨Nat.le_trans G5.l G6.l, by omega, fun p hp hx => ?_⟩
  have := G5.l
  rw [G6.2.2 p (by omega) (Or.inr (Nat.zero_le _)), G5.2.2 p hp hx]
end ZLC
