/-! ===== numbers appended ===== -/
section ZNV
variable {h g : zx_H}
theorem zng_mul {n : Nat} (hn : 10 * n < 2 ^ 30) : (10 : Int32) * -nI n = -nI (10 * n) := by
  have e1 : ((10 : Int32)).toInt = 10 := by decide
  apply Int32.toInt_inj.mp
  rw [fb_mulI (by rw [zng_t (by omega), e1]; omega) (by rw [zng_t (by omega), e1]; omega), zng_t (by omega), zng_t hn, e1]
  omega
/-- how many digits -/
theorem zsize {n : Nat} (hn : n < 10 ^ 8) (d : Nat) (hd : d ≤ 1) : ∀ fuel i, 1 ≤ i → i ≤ 8 → 9 - i < fuel → (i = 1 ∨ 10 ^ (i - 1) ≤ n) → ∃ s, f_Integer_stringSize_16 fuel (-nI n) (nI d) (-nI (10 ^ i)) (nI i) h = some (nI (s + d), h) ∧ 1 ≤ s ∧ s ≤ 8 ∧ n < 10 ^ s ∧ (s = 1 ∨ 10 ^ (s - 1) ≤ n) := by
  intro fuel
  induction fuel with
  | zero => intro i h1 h2 h3; omega
  | succ fuel ih =>
    intro i h1 h2 h3 h4
    have hp : 10 ^ i ≤ 10 ^ 8 := Nat.pow_le_pow_right (by decide) h2
    have hn' : n < 100000000 := hn
    have hp' : 10 ^ i ≤ 100000000 := hp
    have hc : -nI n ≤ -nI (10 ^ i) ↔ 10 ^ i ≤ n := by
      rw [zi_e, zng_t (by omega), zng_t (by omega)]
      omega
    unfold f_Integer_stringSize_16
    rw [if_neg (show ¬ (10 : Int32) ≤ nI i from nI_ge (b := 10) (by omega) (by decide))]
    by_cases e : 10 ^ i ≤ n
    · have hi8 : i < 8 := by
        rcases Nat.lt_or_ge i 8 with x | x
        · exact x
        · have : i = 8 := by omega
          subst this
          have e : 100000000 ≤ n := e
          omega
      have e9 : 10 * 10 ^ i = 10 ^ (i + 1) := by rw [Nat.pow_succ, Nat.mul_comm]
      have hp9 : 10 ^ (i + 1) ≤ 10 ^ 8 := Nat.pow_le_pow_right (by decide) (by omega)
      have hp9' : 10 ^ (i + 1) ≤ 100000000 := hp9
      rw [if_pos (hc.mpr e), zng_mul (by rw [e9]; omega), e9, nI_1]
      exact ih (i + 1) (by omega) (by omega) (by omega) (Or.inr (by rw [Nat.add_sub_cancel]; exact e))
    · rw [if_neg (fun x => e (hc.mp x)), nI_add]
      exact ⟨i, rfl, h1, h2, by omega, h4⟩
theorem zpow_one {n s t : Nat} (h1 : n < 10 ^ s) (h2 : s = 1 ∨ 10 ^ (s - 1) ≤ n) (h3 : n < 10 ^ t) (h4 : t = 1 ∨ 10 ^ (t - 1) ≤ n) (hs : 1 ≤ s) (ht : 1 ≤ t) : s = t := by
  rcases Nat.lt_trichotomy s t with x | x | x
  · rcases h4 with rfl | h4
    · omega
    · have := Nat.pow_le_pow_right (show 0 < 10 by decide) (show s ≤ t - 1 by omega)
      omega
  · exact x
  · rcases h2 with rfl | h2
    · omega
    · have := Nat.pow_le_pow_right (show 0 < 10 by decide) (show t ≤ s - 1 by omega)
      omega
/-- the letters of a number -/
def znum (neg : Bool) (ds : List Nat) : List Nat := if neg = true then 45 :: ds else ds
theorem znum_len {neg : Bool} {ds : List Nat} : (znum neg ds).length = ds.length + zbn1 neg := by
  cases neg <;> rfl
theorem zSB_int {q a m : Nat} {w : List Nat} (s : zSB h q a m w) {n : Nat} {neg : Bool} (hn : n < 10 ^ 8) (h0 : neg = true → 1 ≤ n) (hw : w.length < 8900) (hB : zM h ≤ 7000000) : ∃ g a' m' ds, f_StringBuilder_appendq2 q (if neg = true then -nI n else nI n) h = some (q, g) ∧ zSB g q a' m' (w ++ znum neg ds) ∧ zSt h g q a a' m m' ∧ (m' ≤ m ∨ m' ≤ 2 * (w.length + 9)) ∧ (∀ c ∈ ds, 48 ≤ c ∧ c ≤ 57) ∧ ds ≠ [] ∧ zvf ds 0 = n ∧ ds.length ≤ 8 := by
  have hn' : n < 100000000 := hn
  obtain ⟨sz, e1, s1, s8, s2, s3⟩ := zsize (h := h) hn (zbn1 neg) (by cases neg <;> decide) zF 1 (Nat.le_refl _) (by decide) (by decide) (Or.inl rfl)
  have es : f_Integer_stringSize (if neg = true then -nI n else nI n) h = some (nI (sz + zbn1 neg), h) := by
    unfold f_Integer_stringSize
    cases neg with
    | true =>
      have hneg : -nI n < 0 := by
        rw [zi_t, zng_t (by omega), show ((0 : Int32)).toInt = 0 by decide]
        have := h0 rfl
        omega
      rw [if_pos rfl, if_pos hneg]
      exact e1
    | false =>
      rw [if_neg (show ¬ (false = true) by decide), if_neg (nI_pos (by omega))]
      exact e1
  have hz1 : zbn1 neg ≤ 1 := by cases neg <;> decide
  obtain ⟨g1, a', m', r1, s4, t1, t2, t3, t4, t5, t6, t7⟩ := zSB_room s (n := w.length + (sz + zbn1 neg)) (by omega) hB
  have f0 := zfv0 s4
  have hne := s4.ne
  have s4' := s4
  have hl4 := s4.len
  obtain ⟨ml0, f9, i1, _⟩ := s
  obtain ⟨ml, f, e2, e3, b1, b2, b3, b4, b5⟩ := s4
  have ha := zlt_of e3
  have hlg := zlen (h := g1) (by omega)
  obtain ⟨ds, f', c1, c2, c3, c4, c5, c6, c7, c8, c9, c10⟩ := zgetC (a := a') (m := m') (by omega) b2 neg zF sz n (w.length + (sz + zbn1 neg)) g1 f e3 hlg s2 (by omega) s1 (by unfold zF; omega) (by omega) (by omega)
  have hds : ds.length = sz := zpow_one c6 c7 s2 s3 c4 s1
  have hnl : (znum neg ds).length = sz + zbn1 neg := by rw [znum_len, hds]
  generalize hg2 : g1.set a' (.inl (3, m', .inl f')) = g2 at c1
  have e4 : g2[a']? = some (.inl (3, m', .inl f')) := zh_set_r e3 hg2
  have e5 : g2[q]? = some (.inr (1, [.ref a', .int 0, .int ml, .int (nI w.length)])) := zh_set_k hg2 (fun x => hne x.symm) e2
  have n2 := zh_put (k := 3) (v := .int (nI (w ++ znum neg ds).length)) e5 (by show _ < 4; decide)
  generalize hg3 : g2.set q (.inr (1, [.ref a', .int 0, .int ml, .int (nI (w ++ znum neg ds).length)])) = g3
  have n2 : zf_put 1 3 q (.int (nI (w ++ znum neg ds).length)) g2 = some g3 := n2.trans (congrArg some hg3)
  have hlen : (w ++ znum neg ds).length = w.length + (sz + zbn1 neg) := by rw [List.length_append, hnl]
  have c1' : f_Integer_getChars (if neg = true then -nI n else nI n) (nI (w.length + (sz + zbn1 neg))) a' g1 = some (nI (w.length + (sz + zbn1 neg) - ds.length - zbn1 neg), g2) := by
    unfold f_Integer_getChars
    cases neg with
    | true =>
      have hneg : ¬ (0 : Int32) ≤ -nI n := by
        rw [zi_e, zng_t (by omega), show ((0 : Int32)).toInt = 0 by decide]
        have := h0 rfl
        omega
      rw [if_pos rfl, if_neg hneg, if_pos (by decide)]
      exact c1
    | false =>
      rw [if_neg (show ¬ (false = true) by decide), if_pos (nI_pos' (by omega)), if_neg (by decide)]
      exact c1
  refine ⟨g3, a', m', ds, ?_, zSB_put s4' (u := znum neg ds) (by rw [hnl]; exact t1) (fun c hc => ?_) (f2 := f') (e2 := .inr (0, [])) ⟨ml, f, e2, e3, fun i hi => c10 i (Or.inl (by omega)), fun i hi => c10 i (Or.inr (by rw [hnl] at hi; exact hi))⟩ (fun i hi => ?_) g3 ⟨ml, zh_set_r e5 hg3⟩ (zh_set_k hg3 hne e4), ⟨?_, ?_, fun p hp p1 p2 => ?_, t5, t6⟩, ?_, c2, fun x => by rw [x] at c4; exact absurd c4 (by decide), c3, by omega⟩
  · unfold f_StringBuilder_appendq2 f_AbstractStringBuilder_appendq2
    rw [ze_b (zh_is i1)]
    refine ze_b2 (a := q) (g := g3) ?_
    rw [ze_b (zh_I i1 rfl), ze_b2 es, ze_b (zh_is i1), nI_add, ze_b2 r1, ze_b2 f0, if_neg (by decide), ze_b (zh_A e2 rfl), ze_b2 c1', ← hlen, ze_b n2]
  · cases neg with
    | true =>
      rcases List.mem_cons.mp hc with rfl | hc
      · decide
      · have := c2 c hc
        omega
    | false =>
      have := c2 c hc
      omega
  · rw [hnl] at hi
    cases neg with
    | true =>
      cases i with
      | zero =>
        have := c9 rfl
        rw [hds, show w.length + (sz + zbn1 true) - sz - 1 = w.length + 0 by show w.length + (sz + 1) - sz - 1 = _; omega] at this
        exact this
      | succ i =>
        have hi : i + 1 < sz + 1 := hi
        have := c8 i (by omega)
        rw [hds, show w.length + (sz + zbn1 true) - sz + i = w.length + (i + 1) by show w.length + (sz + 1) - sz + i = _; omega] at this
        exact this
    | false =>
      have hi : i < sz + 0 := hi
      have := c8 i (by omega)
      rw [hds, show w.length + (sz + zbn1 false) - sz + i = w.length + i by show w.length + (sz + 0) - sz + i = _; omega] at this
      exact this
  · rw [← hg3, List.length_set, ← hg2, List.length_set]; exact t2
  · have : zM g3 = zM g1 := by
      unfold zM
      rw [← hg3, zh_set_sz (c' := .inr (1, [.ref a', .int 0, .int ml, .int (nI (w ++ znum neg ds).length)])) e5 rfl, List.length_set, ← hg2, zh_set_sz (c' := .inl (3, m', .inl f')) e3 rfl, List.length_set]
    rw [this]; exact t3
  · have : p ≠ a' := by rcases t5 with x | x <;> omega
    rw [← hg3, zh_set_n (Ne.symm p1), ← hg2, zh_set_n (Ne.symm this)]
    exact t4 p hp p1 p2
  · rcases t7 with x | x
    · exact Or.inl x
    · exact Or.inr (by omega)
end ZNV
