/-! ===== the rows of a test, by keys ===== -/
section ZST
variable {T : zT} {c r : Nat}
theorem zkv_td {kd : Nat} {k : Int64} (hk : zokK kd k) (hd : kd ≤ 1) : zkv kd (ztd kd k) = k := by
  have e1 := zkeyOf kd hd (ztd kd k) []
  have e2 := zf_keyOf hk hd []
  have := e1.symm.trans e2
  injection this with this
  injection this
theorem zcmpK (w : zWF T) (hc : c < T.nc) (hr : r < T.nr) : T.ky c r = -9000000000 ∨ (-1000000 ≤ (T.ky c r).toInt ∧ (T.ky c r).toInt < 72057594037927936) := by
  by_cases e : T.ky c r = -9000000000
  · exact Or.inl e
  · exact Or.inr (zokK_ge (w.k hc hr) e)
theorem zrt_lt (w : zWF T) (hc : c < T.nc) (hr : r < T.nr) {k : Int64} (hk : -1000000 ≤ k.toInt ∧ k.toInt < 72057594037927936) : zrt T c 60 [k] r = decide (T.ky c r ≠ -9000000000 ∧ T.ky c r < k) := by
  show decide ((-8999999999 : Int64) ≤ T.ky c r ∧ T.ky c r ≤ k - 1) = _
  refine decide_eq_decide.mpr ?_
  have e1 : ((-8999999999 : Int64)).toInt = -8999999999 := by decide +kernel
  have e2 : (k - 1).toInt = k.toInt - 1 := by
    have e3 : ((1 : Int64)).toInt = 1 := by decide
    rw [fb_subL (by rw [e3]; omega) (by rw [e3]; omega), e3]
  rw [zl_e, zl_e, zl_t, e1, e2]
  rcases zcmpK w hc hr with e | e
  · rw [e, zl_m]
    exact ⟨fun x => by omega, fun x => absurd rfl x.1⟩
  · constructor
    · rintro ⟨a, b⟩
      exact ⟨fun x => by rw [x, zl_m] at e; omega, by omega⟩
    · rintro ⟨a, b⟩
      exact ⟨by omega, by omega⟩
theorem zrt_gt (w : zWF T) (hc : c < T.nc) (hr : r < T.nr) {k : Int64} (hk : -1000000 ≤ k.toInt ∧ k.toInt < 72057594037927936) : zrt T c 62 [k] r = decide (T.ky c r ≠ -9000000000 ∧ k < T.ky c r) := by
  show decide (k + 1 ≤ T.ky c r ∧ T.ky c r ≤ (9223372036854775807 : Int64)) = _
  refine decide_eq_decide.mpr ?_
  have e1 : ((9223372036854775807 : Int64)).toInt = 9223372036854775807 := by decide +kernel
  have e2 : (k + 1).toInt = k.toInt + 1 := by
    have e3 : ((1 : Int64)).toInt = 1 := by decide
    rw [fb_addL (by rw [e3]; omega) (by rw [e3]; omega), e3]
  rw [zl_e, zl_e, zl_t, e1, e2]
  rcases zcmpK w hc hr with e | e
  · rw [e, zl_m]
    exact ⟨fun x => by omega, fun x => absurd rfl x.1⟩
  · constructor
    · rintro ⟨a, b⟩
      exact ⟨fun x => by rw [x, zl_m] at e; omega, by omega⟩
    · rintro ⟨a, b⟩
      exact ⟨by omega, by omega⟩
theorem zan_mem {ks : List Int64} : ∀ n, zan T c ks n r = true ↔ ∃ i, i < n ∧ T.ky c r = ks.getD i 0
  | 0 => ⟨fun x => absurd x (by show ¬ false = true; decide), fun ⟨i, hi, _⟩ => absurd hi (Nat.not_lt_zero _)⟩
  | n + 1 => by
    show (zan T c ks n r || decide (ks.getD n 0 ≤ T.ky c r ∧ T.ky c r ≤ ks.getD n 0)) = true ↔ _
    rw [Bool.or_eq_true, zan_mem n, decide_eq_true_eq, zl_e, zl_e]
    constructor
    · rintro (⟨i, hi, e⟩ | ⟨a, b⟩)
      · exact ⟨i, by omega, e⟩
      · exact ⟨n, Nat.lt_succ_self _, (zl_i _ _).mpr (by omega)⟩
    · rintro ⟨i, hi, e⟩
      by_cases e2 : i = n
      · refine Or.inr ?_
        rw [e, e2]
        exact ⟨Int.le_refl _, Int.le_refl _⟩
      · exact Or.inl ⟨i, by omega, e⟩
theorem zrt_eq {k : Int64} : zrt T c 61 [k] r = decide (T.ky c r = k) := by
  show zan T c [k] 1 r = _
  by_cases e : T.ky c r = k
  · rw [decide_eq_true e]
    exact (zan_mem 1).mpr ⟨0, by decide, e⟩
  · rw [decide_eq_false e]
    refine ts_nt fun x => ?_
    obtain ⟨i, hi, e2⟩ := (zan_mem 1).mp x
    have : i = 0 := by omega
    subst this
    exact e e2
theorem zrt_in {ks : List Int64} : zrt T c 105 ks r = zan T c ks ks.length r := rfl
theorem zrt_to {k k' : Int64} : zrt T c 116 [k, k'] r = decide (k ≤ T.ky c r ∧ T.ky c r ≤ k') := rfl
theorem zrt_mi : zrt T c 109 [] r = decide (T.ky c r = -9000000000) := by
  show decide ((-9000000000 : Int64) ≤ T.ky c r ∧ T.ky c r ≤ (-9000000000 : Int64)) = _
  refine decide_eq_decide.mpr ?_
  rw [zl_e, zl_e, zl_i]
  omega
end ZST
