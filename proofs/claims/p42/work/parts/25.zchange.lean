/-! ===== a Sheet changed: what stays elsewhere ===== -/
/-- g differs from h at the n places from q on alone, and is as large -/
def zU (q n : Nat) (h g : zx_H) : Prop := g.length = h.length ∧ zx_sz g = zx_sz h ∧ ∀ p, p < q ∨ q + n ≤ p → g[p]? = h[p]?
theorem zU_r {q n : Nat} {h : zx_H} : zU q n h h := ⟨rfl, rfl, fun _ _ => rfl⟩
theorem zU_t {q n : Nat} {h g k : zx_H} (a : zU q n h g) (b : zU q n g k) : zU q n h k := ⟨b.1.trans a.1, b.2.1.trans a.2.1, fun p hp => (b.2.2 p hp).trans (a.2.2 p hp)⟩
theorem zh_set_sz : ∀ {h : zx_H} {q : Nat} {c c' : zx_E}, h[q]? = some c → zx_sz1 c' = zx_sz1 c → zx_sz (h.set q c') = zx_sz h
  | [], _, _, _, e, _ => by cases e
  | x :: t, 0, c, c', e, hs => by
    cases e
    show (zx_sz1 c' :: t.map zx_sz1).sum = (zx_sz1 x :: t.map zx_sz1).sum
    rw [hs]
  | x :: t, q + 1, c, c', e, hs => by
    have h1 : zx_sz (t.set q c') = zx_sz t := zh_set_sz (q := q) (c := c) e hs
    show (zx_sz1 x :: (t.set q c').map zx_sz1).sum = (zx_sz1 x :: t.map zx_sz1).sum
    rw [List.sum_cons, List.sum_cons]
    exact congrArg (zx_sz1 x + ·) h1
theorem zU_s {q n p : Nat} {h : zx_H} {c c' : zx_E} (e : h[p]? = some c) (hs : zx_sz1 c' = zx_sz1 c) (hp : q ≤ p ∧ p < q + n) : zU q n h (h.set p c') := ⟨zh_set_l, zh_set_sz e hs, fun j hj => zh_set_n (by omega)⟩
section SHC
variable {q : Nat} {K : Nat → Int32} {O : Nat → Int32} {nc nr : Nat} {ch : Int64}
theorem zS_addC {c : Nat} (hc : c < nc) : ∀ (n i : Nat) (X : Nat → Int64) (h : zx_H), i ≤ nr → nr - i < n → SH h q K X O nc nr ch → ∃ g X', f_Sheet_appendColumn_34 n q (nI c) (nI i) h = some (nI c, g) ∧ SH g q K X' O nc nr ch ∧ (∀ m, X' m = if c * 40 + i ≤ m ∧ m < c * 40 + nr then -9000000000 else X m) ∧ zU q 4 h g := by
  intro n
  induction n with
  | zero => intro i X h _ hn; exact absurd hn (Nat.not_lt_zero _)
  | succ n ih =>
    intro i X h hin hn S
    have h40 := S.nr40
    unfold f_Sheet_appendColumn_34
    rw [ze_b (zh_I S.c rfl)]
    rcases Nat.lt_or_ge i nr with hlt | hge
    · obtain ⟨g, e, eg, S2⟩ := zS_putKey S hc hlt (-9000000000)
      rw [if_neg (nI_ge hlt (by omega)), ze_b (zh_is S.c), ze_b2 e, nI_1]
      obtain ⟨k, X', e2, S3, hX, hU⟩ := ih (i + 1) _ g hlt (by omega) S2
      refine ⟨k, X', e2, S3, fun m => ?_, zU_t ?_ hU⟩
      · rw [hX m]
        by_cases hm : m = c * 40 + i
        · subst hm
          rw [if_neg (by omega), if_pos (by omega), pk_uLs]
        · rw [pk_uLn hm]
          by_cases h1 : c * 40 + (i + 1) ≤ m ∧ m < c * 40 + nr
          · rw [if_pos h1, if_pos (by omega)]
          · rw [if_neg h1, if_neg (by omega)]
      · rw [eg]; exact zU_s S.x rfl (by omega)
    · have he : i = nr := Nat.le_antisymm hin hge
      subst he
      rw [if_pos (nI_le (Nat.le_refl _) (by omega))]
      exact ⟨h, X, rfl, S, fun m => by rw [if_neg (by omega)], zU_r⟩
/-- a column is added -/
theorem zS_appendColumn {X : Nat → Int64} {h : zx_H} (S : SH h q K X O nc nr ch) (hc : nc < 4) (kd : Int32) : ∃ g X', f_Sheet_appendColumn q kd h = some (nI nc, g) ∧ SH g q (upd K nc kd) X' O (nc + 1) nr ch ∧ (∀ m, X' m = if nc * 40 ≤ m ∧ m < nc * 40 + nr then -9000000000 else X m) ∧ zU q 4 h g := by
  have h40 := S.nr40
  have e1 := zh_stI (x := kd) S.k hc (by decide)
  have c1 : (h.set (q + 1) (.inl (1, 4, .inl (upd K nc kd))))[q]? = _ := (zh_set_n (by omega)).trans S.c
  have u1 : zU q 4 h (h.set (q + 1) (.inl (1, 4, .inl (upd K nc kd)))) := zU_s S.k rfl (by omega)
  have e2 := zh_put (k := 3) (v := .int (nI nc + (1 : Int32))) c1 (by show _ < 6; decide)
  have S2 : SH ((h.set (q + 1) (.inl (1, 4, .inl (upd K nc kd)))).set q (.inr (10, [.ref (q + 1), .ref (q + 2), .ref (q + 3), .int (nI (nc + 1)), .int (nI nr), .long ch]))) q (upd K nc kd) X O (nc + 1) nr ch := by
    refine ⟨zh_set_s c1, ?_, ?_, ?_, hc, h40⟩
    · rw [zh_set_n (by omega)]; exact zh_set_s S.k
    · rw [zh_set_n (by omega), zh_set_n (by omega)]; exact S.x
    · rw [zh_set_n (by omega), zh_set_n (by omega)]; exact S.o
  obtain ⟨g, X', e3, S3, hX, hU⟩ := zS_addC (c := nc) (Nat.lt_succ_self nc) zF 0 X _ (Nat.zero_le _) (by unfold zF; omega) S2
  refine ⟨g, X', ?_, S3, hX, zU_t (zU_t u1 (zU_s (c' := .inr (10, [.ref (q + 1), .ref (q + 2), .ref (q + 3), .int (nI (nc + 1)), .int (nI nr), .long ch])) c1 rfl (by omega))) hU⟩
  unfold f_Sheet_appendColumn
  rw [ze_b (zh_I S.c rfl), if_pos (show nI nc < (4 : Int32) from nI_lt (b := 4) hc (by decide)), ze_b (zh_I S.c rfl), ze_b (zh_A S.c rfl), ze_b e1, ze_b (zh_I c1 rfl), ze_b e2]
  rw [nI_succ, nI_0] at e3
  exact e3
/-- there is no room for a column -/
theorem zS_appendColumn4 {X : Nat → Int64} {h : zx_H} (S : SH h q K X O nc nr ch) (hc : nc = 4) (kd : Int32) : f_Sheet_appendColumn q kd h = some (-1, h) := by
  unfold f_Sheet_appendColumn
  subst hc
  rw [ze_b (zh_I S.c rfl), if_neg (by decide)]
end SHC
