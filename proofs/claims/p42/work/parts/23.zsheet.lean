/-! ===== a Sheet's questions ===== -/
/-- a set of rows: bit j for p j, j < n -/
def zB (p : Nat → Bool) : Nat → Int64
  | 0 => 0
  | n + 1 => if p n = true then zB p n ||| ((1 : Int64) <<< ((nI n).toInt64 &&& 63)) else zB p n
theorem zB_c {p p' : Nat → Bool} : ∀ {n : Nat}, (∀ j, j < n → p j = p' j) → zB p n = zB p' n
  | 0, _ => rfl
  | n + 1, e => by
    have h1 := zB_c (n := n) fun j hj => e j (Nat.lt_succ_of_lt hj)
    show (if p n = true then _ else _) = (if p' n = true then _ else _)
    rw [h1, e n (Nat.lt_succ_self n)]
section SHR
variable {h : zx_H} {q : Nat} {K : Nat → Int32} {X : Nat → Int64} {O : Nat → Int32} {nc nr : Nat} {ch : Int64}
theorem zS_kindOf (S : SH h q K X O nc nr ch) (hl : h.length ≤ 600000) (c : Int32) : f_Sheet_kindOf q c h = some (if c < 0 ∨ nI nc ≤ c then -1 else K c.toNatClampNeg, h) := by
  have h4 := S.nc4
  unfold f_Sheet_kindOf
  rw [ze_b (zh_is S.c), ze_b2 (zS_hasColumn S c)]
  by_cases hc : c < 0 ∨ nI nc ≤ c
  · rw [if_pos hc, if_pos rfl, if_pos hc]
  · have h1 : ¬ c < 0 := fun x => hc (Or.inl x)
    have h2 : ¬ nI nc ≤ c := fun x => hc (Or.inr x)
    rw [if_neg hc, if_neg (by decide), if_neg hc]
    obtain ⟨i, hi, rfl⟩ := nI_of h1
    have hi2 : i < nc := Nat.lt_of_not_le fun hle => h2 ((nI_leI (by omega) hi).mpr hle)
    rw [ze_b (zh_A S.c rfl), ze_b (zh_ldI (zh_ne S.k hl) S.k (by omega) (by decide)), nI_clamp hi]
def zS_in (X : Nat → Int64) (nc nr : Nat) (c : Int32) (lo hi : Int64) (j : Nat) : Bool := decide (¬ zS_key X nc nr c (nI j) < lo ∧ ¬ hi < zS_key X nc nr c (nI j))
theorem zS_rows6 (S : SH h q K X O nc nr ch) (c : Int32) (lo hi : Int64) : ∀ (n i : Nat), i ≤ nr → nr - i < n → f_Sheet_rowsFromTo_6 n q c lo hi (zB (zS_in X nc nr c lo hi) i) (nI i) h = some (zB (zS_in X nc nr c lo hi) nr, h) := by
  have h40 := S.nr40
  intro n
  induction n with
  | zero => intro i _ hn; exact absurd hn (Nat.not_lt_zero _)
  | succ n ih =>
    intro i hin hn
    unfold f_Sheet_rowsFromTo_6
    rw [ze_b (zh_I S.c rfl)]
    rcases Nat.lt_or_ge i nr with hlt | hge
    · rw [if_neg (nI_ge hlt (by omega)), ze_b (zh_is S.c), ze_b2 (zS_keyAt S c (nI i)), nI_1]
      have h1 := ih (i + 1) hlt (by omega)
      by_cases ha : zS_key X nc nr c (nI i) < lo
      · have hp : ¬ zS_in X nc nr c lo hi i = true := by
          unfold zS_in; rw [decide_eq_true_eq]; exact fun x => x.1 ha
        rw [if_pos ha, ← h1]
        show _ = f_Sheet_rowsFromTo_6 n q c lo hi (if zS_in X nc nr c lo hi i = true then _ else _) _ h
        rw [if_neg hp]
      · rw [if_neg ha]
        by_cases hb : hi < zS_key X nc nr c (nI i)
        · have hp : ¬ zS_in X nc nr c lo hi i = true := by
            unfold zS_in; rw [decide_eq_true_eq]; exact fun x => x.2 hb
          rw [if_pos hb, ← h1]
          show _ = f_Sheet_rowsFromTo_6 n q c lo hi (if zS_in X nc nr c lo hi i = true then _ else _) _ h
          rw [if_neg hp]
        · have hp : zS_in X nc nr c lo hi i = true := by
            unfold zS_in; rw [decide_eq_true_eq]; exact ⟨ha, hb⟩
          rw [if_neg hb, ← h1]
          show _ = f_Sheet_rowsFromTo_6 n q c lo hi (if zS_in X nc nr c lo hi i = true then _ else _) _ h
          rw [if_pos hp]
    · have he : i = nr := Nat.le_antisymm hin hge
      subst he
      rw [if_pos (nI_le (Nat.le_refl _) (by omega))]
theorem zS_rowsFromTo (S : SH h q K X O nc nr ch) (c : Int32) (lo hi : Int64) : f_Sheet_rowsFromTo q c lo hi h = some (zB (zS_in X nc nr c lo hi) nr, h) := by
  have h40 := S.nr40
  unfold f_Sheet_rowsFromTo
  exact zS_rows6 S c lo hi zF 0 (Nat.zero_le _) (by unfold zF; omega)
theorem zS_rowsWith (S : SH h q K X O nc nr ch) (c : Int32) (v : Int64) : f_Sheet_rowsWith q c v h = some (zB (zS_in X nc nr c v v) nr, h) := by
  unfold f_Sheet_rowsWith
  rw [ze_b (zh_is S.c), ze_b2 (zS_rowsFromTo S c v v)]
theorem zS_knownRows (S : SH h q K X O nc nr ch) (c : Int32) : f_Sheet_knownRows q c h = some (zB (zS_in X nc nr c (-8999999999) 9223372036854775807) nr, h) := by
  unfold f_Sheet_knownRows
  rw [ze_b (zh_is S.c), ze_b2 (zS_rowsFromTo S c _ _)]
theorem zS_allRows (S : SH h q K X O nc nr ch) : f_Sheet_allRows q h = some (((1 : Int64) <<< ((nI nr).toInt64 &&& 63)) - (1 : Int64), h) := by
  unfold f_Sheet_allRows
  rw [ze_b (zh_I S.c rfl)]
theorem zS_rowInOrder (S : SH h q K X O nc nr ch) (hl : h.length ≤ 600000) (r : Int32) : f_Sheet_rowInOrder q r h = some (if r < 0 ∨ nI nr ≤ r then -1 else O r.toNatClampNeg, h) := by
  have h40 := S.nr40
  unfold f_Sheet_rowInOrder
  rw [ze_b (zh_is S.c), ze_b2 (zS_hasRow S r)]
  by_cases hc : r < 0 ∨ nI nr ≤ r
  · rw [if_pos hc, if_pos rfl, if_pos hc]
  · have h1 : ¬ r < 0 := fun x => hc (Or.inl x)
    have h2 : ¬ nI nr ≤ r := fun x => hc (Or.inr x)
    rw [if_neg hc, if_neg (by decide), if_neg hc]
    obtain ⟨i, hi, rfl⟩ := nI_of h1
    have hi2 : i < nr := Nat.lt_of_not_le fun hle => h2 ((nI_leI (by omega) hi).mpr hle)
    rw [ze_b (zh_A S.c rfl), ze_b (zh_ldI (zh_ne S.o hl) S.o (by omega) (by decide)), nI_clamp hi]
/-- a key is put -/
theorem zS_putKey (S : SH h q K X O nc nr ch) {i j : Nat} (hi : i < nc) (hj : j < nr) (v : Int64) : ∃ g, f_Sheet_putKey q (nI i) (nI j) v h = some ((), g) ∧ g = h.set (q + 2) (.inl (2, 160, .inr (.inl (vp_updL X (i * 40 + j) v)))) ∧ SH g q K (vp_updL X (i * 40 + j) v) O nc nr ch := by
  have h4 := S.nc4
  have h40 := S.nr40
  have hc : ¬ (nI i < 0 ∨ nI nc ≤ nI i) := by
    rintro (x | x)
    · exact nI_pos (by omega) x
    · exact nI_ge hi (by omega) x
  have hr : ¬ (nI j < 0 ∨ nI nr ≤ nI j) := by
    rintro (x | x)
    · exact nI_pos (by omega) x
    · exact nI_ge hj (by omega) x
  have he : nI i * (40 : Int32) + nI j = nI (i * 40 + j) := by
    rw [show (40 : Int32) = nI 40 from rfl, pk_mul, nI_add]
  refine ⟨_, ?_, rfl, ?_, ?_, ?_, ?_, h4, h40⟩
  · unfold f_Sheet_putKey
    rw [ze_b (zh_is S.c), ze_b2 (zS_hasColumn S _), if_neg hc, if_neg (by decide), ze_b (zh_is S.c), ze_b2 (zS_hasRow S _), if_neg hr, if_neg (by decide), ze_b (zh_A S.c rfl), he, ze_b (zh_stJ S.x (by omega) (by decide))]
  · rw [zh_set_n (by omega)]; exact S.c
  · rw [zh_set_n (by omega)]; exact S.k
  · exact zh_set_s S.x
  · rw [zh_set_n (by omega)]; exact S.o
end SHR
