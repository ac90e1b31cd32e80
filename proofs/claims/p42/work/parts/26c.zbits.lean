/-! ===== bits of a long ===== -/
section ZBT
def zbt (x : Int64) (i : Nat) : Bool := x.toBitVec.getLsbD i
theorem zbt_ext {x y : Int64} (h : ∀ i, i < 64 → zbt x i = zbt y i) : x = y := Int64.toBitVec_inj.mp (BitVec.eq_of_getLsbD_eq fun i hi => h i hi)
theorem zbt_and (x y : Int64) (i : Nat) : zbt (x &&& y) i = (zbt x i && zbt y i) := by unfold zbt; rw [Int64.toBitVec_and, BitVec.getLsbD_and]
theorem zbt_or (x y : Int64) (i : Nat) : zbt (x ||| y) i = (zbt x i || zbt y i) := by unfold zbt; rw [Int64.toBitVec_or, BitVec.getLsbD_or]
theorem zbt_xor (x y : Int64) (i : Nat) : zbt (x ^^^ y) i = (zbt x i ^^ zbt y i) := by unfold zbt; rw [Int64.toBitVec_xor, BitVec.getLsbD_xor]
theorem zbt_big {x : Int64} {i : Nat} (h : 64 ≤ i) : zbt x i = false := BitVec.getLsbD_of_ge _ _ h
theorem zbt_m1 : ∀ i, i < 64 → zbt (-1) i = true := by decide +kernel
theorem zbt_0 (i : Nat) : zbt 0 i = false := BitVec.getLsbD_zero
theorem zbt_1 : ∀ k, k < 64 → ((1 : Int64) <<< ((nI k).toInt64 &&& 63)).toBitVec = BitVec.twoPow 64 k := by decide +kernel
theorem zbt_s {k : Nat} (hk : k < 64) (i : Nat) : zbt ((1 : Int64) <<< ((nI k).toInt64 &&& 63)) i = decide (i = k) := by
  unfold zbt
  rw [zbt_1 k hk, BitVec.getLsbD_twoPow, decide_eq_true hk, Bool.true_and]
  exact decide_eq_decide.mpr eq_comm
theorem zbt_neg (x : Int64) (i : Nat) : zbt (-x) i = (zbt x i ^^ decide (i < 64) && decide (∃ j, j < i ∧ zbt x j = true)) := by
  unfold zbt
  rw [Int64.toBitVec_neg, BitVec.getLsbD_neg]
theorem zbt_shr1 (x : Int64) (i : Nat) : zbt (x.toUInt64 >>> (((1 : Int32)).toInt64.toUInt64 &&& Int64.toUInt64 63)).toInt64 i = zbt x (i + 1) := by
  have e : (x.toUInt64 >>> (((1 : Int32)).toInt64.toUInt64 &&& Int64.toUInt64 63)).toInt64.toBitVec = x.toBitVec >>> 1 := by
    apply BitVec.eq_of_toNat_eq
    show (x.toUInt64 >>> (((1 : Int32)).toInt64.toUInt64 &&& Int64.toUInt64 63)).toNat = _
    have h1 : (((1 : Int32)).toInt64.toUInt64 &&& Int64.toUInt64 63).toNat = 1 := by decide
    rw [UInt64.toNat_shiftRight, h1, BitVec.toNat_ushiftRight]
    rfl
  unfold zbt
  rw [e, BitVec.getLsbD_ushiftRight, Nat.add_comm]
theorem zbt_test {x : Int64} {k : Nat} (hk : k < 64) : ((x.toUInt64 >>> ((nI k).toInt64.toUInt64 &&& Int64.toUInt64 63)).toInt64 &&& (1 : Int64)) = (0 : Int64) ↔ zbt x k = false := by
  refine ts_bit hk ?_
  rw [wb_cu k hk]
  exact Nat.mod_eq_of_lt (by omega)
theorem zbt_zB (p : Nat → Bool) : ∀ {n : Nat}, n ≤ 64 → ∀ i, zbt (zB p n) i = (decide (i < n) && p i)
  | 0, _, i => by
    show zbt 0 i = _
    rw [zbt_0]; rfl
  | n + 1, h, i => by
    have ih := zbt_zB p (n := n) (by omega) i
    show zbt (if p n = true then zB p n ||| _ else zB p n) i = _
    by_cases hp : p n = true
    · rw [if_pos hp, zbt_or, ih, zbt_s (by omega)]
      by_cases hi : i = n
      · subst hi; simp [hp]
      · have h1 : (i < n + 1) ↔ (i < n) := by omega
        simp [hi, h1]
    · rw [if_neg hp, ih]
      by_cases hi : i = n
      · subst hi; simp [hp]
      · have h1 : (i < n + 1) ↔ (i < n) := by omega
        simp [h1]
theorem zB_of {x : Int64} {p : Nat → Bool} {n : Nat} (hn : n ≤ 64) (h : ∀ i, i < 64 → zbt x i = (decide (i < n) && p i)) : x = zB p n := zbt_ext fun i hi => (h i hi).trans (zbt_zB p hn i).symm
theorem zB_and {p q : Nat → Bool} {n : Nat} (hn : n ≤ 64) : zB p n &&& zB q n = zB (fun i => p i && q i) n := zB_of hn fun i _ => by
  rw [zbt_and, zbt_zB p hn, zbt_zB q hn]
  by_cases h : i < n <;> simp [h]
theorem zB_or {p q : Nat → Bool} {n : Nat} (hn : n ≤ 64) : zB p n ||| zB q n = zB (fun i => p i || q i) n := zB_of hn fun i _ => by
  rw [zbt_or, zbt_zB p hn, zbt_zB q hn]
  by_cases h : i < n <;> simp [h]
theorem zB_andn {p q : Nat → Bool} {n : Nat} (hn : n ≤ 64) : zB p n &&& (zB q n ^^^ (-1)) = zB (fun i => p i && !q i) n := zB_of hn fun i hi => by
  rw [zbt_and, zbt_xor, zbt_m1 i hi, zbt_zB p hn, zbt_zB q hn]
  by_cases h : i < n <;> simp [h]
theorem zB_put {p : Nat → Bool} {n k : Nat} (hn : n ≤ 64) (hk : k < n) : zB p n ||| ((1 : Int64) <<< ((nI k).toInt64 &&& 63)) = zB (fun i => p i || decide (i = k)) n := zB_of hn fun i _ => by
  rw [zbt_or, zbt_zB p hn, zbt_s (by omega)]
  by_cases h : i < n
  · simp [h]
  · have : i ≠ k := by omega
    simp [h, this]
theorem zB_all : ∀ n, n ≤ 40 → ((1 : Int64) <<< ((nI n).toInt64 &&& 63)) - (1 : Int64) = zB (fun _ => true) n := by decide +kernel
theorem zB_inj {p q : Nat → Bool} {n : Nat} (hn : n ≤ 64) : zB p n = zB q n ↔ ∀ i, i < n → p i = q i := by
  constructor
  · intro h i hi
    have h1 := zbt_zB p hn i
    rw [h, zbt_zB q hn i, decide_eq_true hi] at h1
    simpa using h1.symm
  · exact fun h => zB_c h
theorem zB_none : ∀ n, zB (fun _ => false) n = 0
  | 0 => rfl
  | n + 1 => by
    show (if false = true then _ else zB (fun _ => false) n) = 0
    rw [if_neg (by decide)]; exact zB_none n
theorem zB_zero {p : Nat → Bool} {n : Nat} (hn : n ≤ 64) : zB p n = 0 ↔ ∀ i, i < n → p i = false := by
  rw [← zB_none n]; exact zB_inj hn
theorem zB_more {p : Nat → Bool} {m n : Nat} (h : m ≤ n) (hn : n ≤ 64) : zB p m = zB (fun i => decide (i < m) && p i) n := zB_of hn fun i _ => by
  rw [zbt_zB p (by omega)]
  by_cases h1 : i < m
  · have h2 : i < n := by omega
    simp [h1, h2]
  · simp [h1]
/-- the least row of a set taken away -/
theorem zB_low {p : Nat → Bool} {n k : Nat} (hn : n ≤ 64) (hk : k < n) (hp : p k = true) (hl : ∀ i, i < k → p i = false) : zB p n &&& (-(zB p n)) = (1 : Int64) <<< ((nI k).toInt64 &&& 63) := zbt_ext fun i hi => by
  rw [zbt_and, zbt_neg, zbt_s (by omega), zbt_zB p hn]
  rcases Nat.lt_trichotomy i k with h | h | h
  · simp [hl i h, Nat.ne_of_lt h]
  · subst h
    have h1 : ¬ ∃ j, j < i ∧ zbt (zB p n) j = true := by
      rintro ⟨j, hj, hb⟩
      rw [zbt_zB p hn, hl j hj, Bool.and_false] at hb
      exact absurd hb (by decide)
    simp [hp, hk, h1]
  · have h1 : ∃ j, j < i ∧ zbt (zB p n) j = true := ⟨k, h, by rw [zbt_zB p hn, hp, decide_eq_true hk]; rfl⟩
    have h2 : i ≠ k := by omega
    rw [decide_eq_true h1, decide_eq_true hi]
    cases (decide (i < n) && p i) <;> simp [h2]
theorem zB_low0 {p : Nat → Bool} {n : Nat} (hn : n ≤ 64) (hl : ∀ i, i < n → p i = false) : zB p n &&& (-(zB p n)) = 0 := by
  rw [(zB_zero hn).mpr hl]; rfl
end ZBT
