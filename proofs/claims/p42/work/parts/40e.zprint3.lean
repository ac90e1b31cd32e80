/-! ===== long numbers appended ===== -/
section ZNW
variable {h g : zx_H}
theorem zget86 : ∀ (n a : Nat) (i s p : Int32) (h : zx_H), f_Long_getChars_86 n a i s p h = f_Integer_getChars_22 n p a i s h := by
  intro n
  induction n with
  | zero => intro a i s p h; rfl
  | succ n ih =>
    intro a i s p h
    unfold f_Long_getChars_86 f_Integer_getChars_22
    simp only [ih]
    rfl
theorem zngL_t {n : Nat} (hn : n < 2 ^ 60) : (-lN n).toInt = -(n : Int) := by
  have e0 : ((0 : Int64)).toInt = 0 := by decide
  rw [← Int64.zero_sub, fb_subL (by rw [e0, zN_t (by omega)]; omega) (by rw [e0, zN_t (by omega)]; omega), e0, zN_t (by omega)]
  omega
theorem zngL_mul {n : Nat} (hn : 10 * n < 2 ^ 60) : (10 : Int64) * -lN n = -lN (10 * n) := by
  have e1 : (10 : Int64) = lN 10 := rfl
  rw [Int64.mul_neg, e1]
  congr 1
  apply uN_inj
  rw [uN_mul, zN_u (by decide), zN_u (by omega), zN_u (by omega)]
  omega
theorem zngL_i {n : Nat} (hn : n < 2 ^ 30) : (-lN n).toInt32 = -nI n := by
  rw [← Int64.zero_sub, Int64.toInt32_sub, lN_i, show ((0 : Int64)).toInt32 = (0 : Int32) by decide, Int32.zero_sub]
theorem zsizeL {n : Nat} (hn : n < 10 ^ 8) (d : Nat) (hd : d ≤ 1) : ∀ fuel i, 1 ≤ i → i ≤ 8 → 9 - i < fuel → (i = 1 ∨ 10 ^ (i - 1) ≤ n) → ∃ s, f_Long_stringSize_20 fuel (-lN n) (nI d) (-lN (10 ^ i)) (nI i) h = some (nI (s + d), h) ∧ 1 ≤ s ∧ s ≤ 8 ∧ n < 10 ^ s ∧ (s = 1 ∨ 10 ^ (s - 1) ≤ n) := by
  intro fuel
  induction fuel with
  | zero => intro i h1 h2 h3; omega
  | succ fuel ih =>
    intro i h1 h2 h3 h4
    have hp : 10 ^ i ≤ 10 ^ 8 := Nat.pow_le_pow_right (by decide) h2
    have hn' : n < 100000000 := hn
    have hp' : 10 ^ i ≤ 100000000 := hp
    have hc : -lN n ≤ -lN (10 ^ i) ↔ 10 ^ i ≤ n := by
      rw [zl_e, zngL_t (by omega), zngL_t (by omega)]
      omega
    unfold f_Long_stringSize_20
    rw [if_neg (show ¬ (19 : Int32) ≤ nI i from nI_ge (b := 19) (by omega) (by decide))]
    by_cases e : 10 ^ i ≤ n
    · have hi8 : i < 8 := by
        rcases Nat.lt_or_ge i 8 with x | x
        · exact x
        · have : i = 8 := by omega
          subst this
          have e : 100000000 ≤ n := e
          omega
      have e9 : 10 * 10 ^ i = 10 ^ (i + 1) := by rw [Nat.pow_succ, Nat.mul_comm]
      have hp9 : 10 ^ (i + 1) ≤ 10 ^ 8 := Nat.pow_le_pow_right (by decide) (by omega)
      have hp9' : 10 ^ (i + 1) ≤ 100000000 := hp9
      rw [if_pos (hc.mpr e), zngL_mul (by rw [e9]; omega), e9, nI_1]
      exact ih (i + 1) (by omega) (by omega) (by omega) (Or.inr (by rw [Nat.add_sub_cancel]; exact e))
    · rw [if_neg (fun x => e (hc.mp x)), nI_add]
      exact ⟨i, rfl, h1, h2, by omega, h4⟩
theorem zSB_long {q a m : Nat} {w : List Nat} (s : zSB h q a m w) {n : Nat} {neg : Bool} (hn : n < 10 ^ 8) (h0 : neg = true → 1 ≤ n) (hw : w.length < 8900) (hB : zM h ≤ 7000000) : ∃ g a' m' ds, f_StringBuilder_appendq5 q (if neg = true then -lN n else lN n) h = some (q, g) ∧ zSB g q a' m' (w ++ znum neg ds) ∧ zSt h g q a a' m m' ∧ (m' ≤ m ∨ m' ≤ 2 * (w.length + 9)) ∧ (∀ c ∈ ds, 48 ≤ c ∧ c ≤ 57) ∧ ds ≠ [] ∧ zvf ds 0 = n ∧ ds.length ≤ 8 := by
  have hn' : n < 100000000 := hn
  have e00 : ((0 : Int64)).toInt = 0 := by decide
  obtain ⟨sz, e1, s1, s8, s2, s3⟩ := zsizeL (h := h) hn (zbn1 neg) (by cases neg <;> decide) zF 1 (Nat.le_refl _) (by decide) (by decide) (Or.inl rfl)
  have es : f_Long_stringSize (if neg = true then -lN n else lN n) h = some (nI (sz + zbn1 neg), h) := by
    unfold f_Long_stringSize
    cases neg with
    | true =>
      have hneg : -lN n < (0 : Int64) := by
        rw [zl_t, zngL_t (by omega), e00]
        have := h0 rfl
        omega
      rw [if_pos rfl, if_pos hneg]
      exact e1
    | false =>
      rw [if_neg (show ¬ (false = true) by decide), if_neg (show ¬ lN n < (0 : Int64) by rw [zl_t, zN_t (by omega), e00]; omega)]
      exact e1
  have hz1 : zbn1 neg ≤ 1 := by cases neg <;> decide
  obtain ⟨g1, a', m', r1, s4, t1, t2, t3, t4, t5, t6, t7⟩ := zSB_room s (n := w.length + (sz + zbn1 neg)) (by omega) hB
  have f0 := zfv0 s4
  have hne := s4.ne
  have s4' := s4
  have hl4 := s4.len
  obtain ⟨ml0, f9, i1, _⟩ := s
  obtain ⟨ml, f, e2, e3, b1, b2, b3, b4, b5⟩ := s4
  have ha := zlt_of e3
  have hlg := zlen (h := g1) (by omega)
  obtain ⟨ds, f', c1, c2, c3, c4, c5, c6, c7, c8, c9, c10⟩ := zgetC (a := a') (m := m') (by omega) b2 neg zF sz n (w.length + (sz + zbn1 neg)) g1 f e3 hlg s2 (by omega) s1 (by unfold zF; omega) (by omega) (by omega)
  have hds : ds.length = sz := zpow_one c6 c7 s2 s3 c4 s1
  have hnl : (znum neg ds).length = sz + zbn1 neg := by rw [znum_len, hds]
  generalize hg2 : g1.set a' (.inl (3, m', .inl f')) = g2 at c1
  have e4 : g2[a']? = some (.inl (3, m', .inl f')) := zh_set_r e3 hg2
  have e5 : g2[q]? = some (.inr (1, [.ref a', .int 0, .int ml, .int (nI w.length)])) := zh_set_k hg2 (fun x => hne x.symm) e2
  have n2 := zh_put (k := 3) (v := .int (nI (w ++ znum neg ds).length)) e5 (by show _ < 4; decide)
  generalize hg3 : g2.set q (.inr (1, [.ref a', .int 0, .int ml, .int (nI (w ++ znum neg ds).length)])) = g3
  have n2 : zf_put 1 3 q (.int (nI (w ++ znum neg ds).length)) g2 = some g3 := n2.trans (congrArg some hg3)
  have hlen : (w ++ znum neg ds).length = w.length + (sz + zbn1 neg) := by rw [List.length_append, hnl]
  have c24 : f_Long_getChars_24 zF (-lN n) a' (nI (w.length + (sz + zbn1 neg))) (zb neg) g1 = some (nI (w.length + (sz + zbn1 neg) - ds.length - zbn1 neg), g2) := by
    show f_Long_getChars_24 (4999 + 1) (-lN n) a' (nI (w.length + (sz + zbn1 neg))) (zb neg) g1 = _
    unfold f_Long_getChars_24
    rw [if_pos (show (-2147483648 : Int64) < -lN n by rw [zl_t, zngL_t (by omega), show ((-2147483648 : Int64)).toInt = -2147483648 by decide +kernel]; omega), zngL_i (by omega), zget86]
    exact c1
  have c1' : f_Long_getChars (if neg = true then -lN n else lN n) (nI (w.length + (sz + zbn1 neg))) a' g1 = some (nI (w.length + (sz + zbn1 neg) - ds.length - zbn1 neg), g2) := by
    unfold f_Long_getChars
    cases neg with
    | true =>
      have hneg : ¬ (0 : Int64) ≤ -lN n := by
        rw [zl_e, zngL_t (by omega), e00]
        have := h0 rfl
        omega
      rw [if_pos rfl, if_neg hneg, if_pos (by decide)]
      exact c24
    | false =>
      rw [if_neg (show ¬ (false = true) by decide), if_pos (show (0 : Int64) ≤ lN n by rw [zl_e, zN_t (by omega), e00]; omega), if_neg (by decide)]
      exact c24
  refine ⟨g3, a', m', ds, ?_, zSB_put s4' (u := znum neg ds) (by rw [hnl]; exact t1) (fun c hc => ?_) (f2 := f') (e2 := .inr (0, [])) ⟨ml, f, e2, e3, fun i hi => c10 i (Or.inl (by omega)), fun i hi => c10 i (Or.inr (by rw [hnl] at hi; exact hi))⟩ (fun i hi => ?_) g3 ⟨ml, zh_set_r e5 hg3⟩ (zh_set_k hg3 hne e4), ⟨?_, ?_, fun p hp p1 p2 => ?_, t5, t6⟩, ?_, c2, fun x => by rw [x] at c4; exact absurd c4 (by decide), c3, by omega⟩
  · unfold f_StringBuilder_appendq5 f_AbstractStringBuilder_appendq4
    rw [ze_b (zh_is i1)]
    refine ze_b2 (a := q) (g := g3) ?_
    rw [ze_b (zh_I i1 rfl), ze_b2 es, ze_b (zh_is i1), nI_add, ze_b2 r1, ze_b2 f0, if_neg (by decide), ze_b (zh_A e2 rfl), ze_b2 c1', ← hlen, ze_b n2]
  · cases neg with
    | true =>
      rcases List.mem_cons.mp hc with rfl | hc
      · decide
      · have := c2 c hc
        omega
    | false =>
      have := c2 c hc
      omega
  · rw [hnl] at hi
    cases neg with
    | true =>
      cases i with
      | zero =>
        have := c9 rfl
        rw [hds, show w.length + (sz + zbn1 true) - sz - 1 = w.length + 0 by show w.length + (sz + 1) - sz - 1 = _; omega] at this
        exact this
      | succ i =>
        have hi : i + 1 < sz + 1 := hi
        have := c8 i (by omega)
        rw [hds, show w.length + (sz + zbn1 true) - sz + i = w.length + (i + 1) by show w.length + (sz + 1) - sz + i = _; omega] at this
        exact this
    | false =>
      have hi : i < sz + 0 := hi
      have := c8 i (by omega)
      rw [hds, show w.length + (sz + zbn1 false) - sz + i = w.length + i by show w.length + (sz + 0) - sz + i = _; omega] at this
      exact this
  · rw [← hg3, List.length_set, ← hg2, List.length_set]; exact t2
  · have : zM g3 = zM g1 := by
      unfold zM
      rw [← hg3, zh_set_sz (c' := .inr (1, [.ref a', .int 0, .int ml, .int (nI (w ++ znum neg ds).length)])) e5 rfl, List.length_set, ← hg2, zh_set_sz (c' := .inl (3, m', .inl f')) e3 rfl, List.length_set]
    rw [this]; exact t3
  · have : p ≠ a' := by rcases t5 with x | x <;> omega
    rw [← hg3, zh_set_n (Ne.symm p1), ← hg2, zh_set_n (Ne.symm this)]
    exact t4 p hp p1 p2
  · rcases t7 with x | x
    · exact Or.inl x
    · exact Or.inr (by omega)
/-- a number's token is its value -/
theorem zlv_num {n : Nat} {neg : Bool} {ds : List Nat} (hv : zvf ds 0 = n) (hn : n ≤ 1000000) : zlv neg (lN (zdn ds 0)) = if neg = true then -lN n else lN n := by
  rw [zdn_min ds 0 (by decide), hv, Nat.min_eq_left (by omega)]
  unfold zlv
  rw [if_pos (show lN n ≤ (1000000 : Int64) by rw [zl_e, zN_t (by omega), show ((1000000 : Int64)).toInt = 1000000 by decide +kernel]; omega)]
theorem zlv_far {n : Nat} {ds : List Nat} (hv : zvf ds 0 = n) (hn : 1000000 < n) : zlv false (lN (zdn ds 0)) = -9000000000 := by
  rw [zdn_min ds 0 (by decide), hv, Nat.min_eq_right (by omega)]
  unfold zlv
  rw [if_neg (show ¬ lN 1000001 ≤ (1000000 : Int64) by rw [zl_e, zN_t (by decide), show ((1000000 : Int64)).toInt = 1000000 by decide +kernel]; omega)]
theorem zabs {v : Int64} (h1 : -1000000 ≤ v.toInt) (h2 : v.toInt ≤ 1000000) : ∃ (n : Nat) (neg : Bool), v = (if neg = true then -lN n else lN n) ∧ n ≤ 1000000 ∧ (neg = true → 1 ≤ n) := by
  rcases Int.lt_or_le v.toInt 0 with x | x
  · refine ⟨v.toInt.natAbs, true, ?_, by omega, fun _ => by omega⟩
    rw [if_pos rfl]
    apply Int64.toInt_inj.mp
    rw [zngL_t (by omega)]
    omega
  · refine ⟨v.toInt.natAbs, false, ?_, by omega, fun x => absurd x (by decide)⟩
    rw [if_neg (by decide)]
    apply Int64.toInt_inj.mp
    rw [zN_t (by omega)]
    omega
end ZNW
