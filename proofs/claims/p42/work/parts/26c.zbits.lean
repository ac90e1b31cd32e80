/-! ===== bits of a long ===== -/
section ZBT
def zbt (x : Int64) (i : Nat) : Bool := x.toBitVec.getLsbD i
theorem zbt_ext {x y : Int64} (h : ∀ i, i < 64 → zbt x i = zbt y i) : x = y := Int64.toBitVec_inj.mp (BitVec.eq_of_getLsbD_eq fun i hi => h i hi)
theorem zbt_and (x y : Int64) (i : Nat) : zbt (x &&& y) i = (zbt x i && zbt y i) := by unfold zbt; rw [Int64.toBitVec_and, BitVec.getLsbD_and]
theorem zbt_or (x y : Int64) (i : Nat) : zbt (x ||| y) i = (zbt x i || zbt y i) := by unfold zbt; rw [Int64.toBitVec_or, BitVec.getLsbD_or]
theorem zbt_xor (x y : Int64) (i : Nat) : zbt (x ^^^ y) i = (zbt x i ^^ zbt y i) := by unfold zbt; rw [Int64.toBitVec_xor, BitVec.getLsbD_xor]
theorem zbt_big {x : Int64} {i : Nat} (h : 64 ≤ i) : zbt x i = false := BitVec.getLsbD_of_ge _ _ h
theorem zbt_m1 : ∀ i, i < 64 → zbt (-1) i = true := by decide +kernel
theorem zbt_0 (i : Nat) : zbt 0 i = false := BitVec.getLsbD_zero
theorem zbt_1 : ∀ k, k < 64 → ((1 : Int64) <<< ((nI k).toInt64 &&& 63)).toBitVec = BitVec.twoPow 64 k := by decide +kernel
theorem zbt_s {k : Nat} (hk : k < 64) (i : Nat) : zbt ((1 : Int64) <<< ((nI k).toInt64 &&& 63)) i = decide (i = k) := by
  unfold zbt
  rw [zbt_1 k hk, BitVec.getLsbD_twoPow, decide_eq_true hk, Bool.true_and]
  exact decide_eq_decide.mpr eq_comm
theorem zbt_neg (x : Int64) (i : Nat) : zbt (-x) i = (zbt x i ^^ decide (i < 64) && decide (∃ j, j < i ∧ zbt x j = true)) := by
  unfold zbt
  rw [Int64.toBitVec_neg, BitVec.getLsbD_neg]
theorem zbt_shr1 (x : Int64) (i : Nat) : zbt (x.toUInt64 >>> (((1 : Int32)).toInt64.toUInt64 &&& Int64.toUInt64 63)).toInt64 i = zbt x (i + 1) := by
  have e : (x.toUInt64 >>> (((1 : Int32)).toInt64.toUInt64 &&& Int64.toUInt64 63)).toInt64.toBitVec = x.toBitVec >>> 1 := by
    apply BitVec.eq_of_toNat_eq
    show (x.toUInt64 >>> (((1 : Int32)).toInt64.toUInt64 &&& Int64.toUInt64 63)).toNat = _
    have h1 : (((1 : Int32)).toInt64.toUInt64 &&& Int64.toUInt64 63).toNat = 1 := by decide
    rw [UInt64.toNat_shiftRight, h1, BitVec.toNat_ushiftRight]
    rfl
  unfold zbt
  rw [e, BitVec.getLsbD_ushiftRight, Nat.add_comm]
theorem zbt_test {x : Int64} {k : Nat} (hk : k < 64) : ((x.toUInt64 >>> ((nI k).toInt64.toUInt64 &&& Int64.toUInt64 63)).toInt64 &&& (1 : Int64)) = (0 : Int64) ↔ zbt x k = false := by
  refine ts_bit hk ?_
  rw [wb_cu k hk]
  exact Nat.mod_eq_of_lt (by omega)
theorem zbt_zB (p : Nat → Bool) : ∀ {n : Nat}, n ≤ 64 → ∀ i, zbt (zB p n) i = (decide (i < n) && p i)
  | 0, _, i => by
    show zbt 0 i = _
    rw [zbt_0]; rfl
  | n + 1, h, i => by
    have ih := zbt_zB p (n := n) (by omega) i
    show zbt (if p n = true then zB p n ||| _ else zB p n) i = _
    by_cases hp : p n = true
    · rw [if_pos hp, zbt_or, ih, zbt_s (by omega)]
      by_cases hi : i = n
      · subst hi; simp [hp]
      · have h1 : (i < n + 1) ↔ (i < n) := by omega
        simp [hi, h1]
    · rw [if_neg hp, ih]
      by_cases hi : i = n
      · subst hi; simp [hp]
      · have h1 : (i < n + 1) ↔ (i < n) := by omega
        simp [h1]
theorem zB_of {x : Int64} {p : Nat → Bool} {n : Nat} (hn : n ≤ 64) (h : ∀ i, i < 64 → zbt x i = (decide (i < n) && p i)) : x = zB p n := zbt_ext fun i hi => (h i hi).trans (zbt_zB p hn i).symm
theorem zB_and {p q : Nat → Bool} {n : Nat} (hn : n ≤ 64) : zB p n &&& zB q n = zB (fun i => p i && q i) n := zB_of hn fun i _ => by
  rw [zbt_and, zbt_zB p hn, zbt_zB q hn]
  by_cases h : i < n <;> simp [h]
theorem zB_or {p q : Nat → Bool} {n : Nat} (hn : n ≤ 64) : zB p n ||| zB q n = zB (fun i => p i || q i) n := zB_of hn fun i _ => by
  rw [zbt_or, zbt_zB p hn, zbt_zB q hn]
  by_cases h : i < n <;> simp [h]
theorem zB_andn {p q : Nat → Bool} {n : Nat} (hn : n ≤ 64) : zB p n &&& (zB q n ^^^ (-1)) = zB (fun i => p i && !q i) n := zB_of hn fun i hi => by
  rw [zbt_and, zbt_xor, zbt_m1 i hi, zbt_zB p hn, zbt_zB q hn]
  by_cases h : i < n <;> simp [h]
theorem zB_put {p : Nat → Bool} {n k : Nat} (hn : n ≤ 64) (hk : k < n) : zB p n ||| ((1 : Int64) <<< ((nI k).toInt64 &&& 63)) = zB (fun i => p i || decide (i = k)) n := zB_of hn fun i _ => by
  rw [zbt_or, zbt_zB p hn, zbt_s (by omega)]
  by_cases h : i < n
  · simp [h]
  · have : i ≠ k := by omega
    simp [h, this]
theorem zB_all : ∀ n, n ≤ 40 → ((1 : Int64) <<< ((nI n).toInt64 &&& 63)) - (1 : Int64) = zB (fun _ => true) n := by decide +kernel
theorem zB_inj {p q : Nat → Bool} {n : Nat} (hn : n ≤ 64) : zB p n = zB q n ↔ ∀ i, i < n → p i = q i := by
  constructor
  · intro h i hi
    have h1 := zbt_zB p hn i
    rw [h, zbt_zB q hn i, decide_eq_true hi] at h1
    simpa using h1.symm
  · exact fun h => zB_c h
theorem zB_none : ∀ n, zB (fun _ => false) n = 0
  | 0 => rfl
  | n + 1 => by
    show (if false = true then _ else zB (fun _ => false) n) = 0
    rw [if_neg (by decide)]; exact zB_none n
theorem zB_zero {p : Nat → Bool} {n : Nat} (hn : n ≤ 64) : zB p n = 0 ↔ ∀ i, i < n → p i = false := by
  rw [← zB_none n]; exact zB_inj hn
theorem zB_more {p : Nat → Bool} {m n : Nat} (h : m ≤ n) (hn : n ≤ 64) : zB p m = zB (fun i => decide (i < m) && p i) n := zB_of hn fun i _ => by
  rw [zbt_zB p (by omega)]
  by_cases h1 : i < m
  · have h2 : i < n := by omega
    simp [h1, h2]
  · simp [h1]
/-- the least row of a set taken away -/
theorem zB_low {p : Nat → Bool} {n k : Nat} (hn : n ≤ 64) (hk : k < n) (hp : p k = true) (hl : ∀ i, i < k → p i = false) : zB p n &&& (-(zB p n)) = (1 : Int64) <<< ((nI k).toInt64 &&& 63) := zbt_ext fun i hi => by
  rw [zbt_and, zbt_neg, zbt_s (by omega), zbt_zB p hn]
  rcases Nat.lt_trichotomy i k with h | h | h
  · simp [hl i h, Nat.ne_of_lt h]
  · subst h
    have h1 : ¬ ∃ j, j < i ∧ zbt (zB p n) j = true := by
      rintro ⟨j, hj, hb⟩
      rw [zbt_zB p hn, hl j hj, Bool.and_false] at hb
      exact absurd hb (by decide)
    simp [hp, hk, h1]
  · have h1 : ∃ j, j < i ∧ zbt (zB p n) j = true := ⟨k, h, by rw [zbt_zB p hn, hp, decide_eq_true hk]; rfl⟩
    have h2 : i ≠ k := by omega
    rw [decide_eq_true h1, decide_eq_true hi]
    cases (decide (i < n) && p i) <;> simp [h2]
theorem zB_low0 {p : Nat → Bool} {n : Nat} (hn : n ≤ 64) (hl : ∀ i, i < n → p i = false) : zB p n &&& (-(zB p n)) = 0 := by
  rw [(zB_zero hn).mpr hl]; rfl
end ZBT
/-! ===== how many bits ===== -/
section ZBC
def zn_4 (a : Nat) : Nat := a % 2 + a / 2 % 2 + a / 4 % 2 + a / 8 % 2
theorem zn_and (x y k : Nat) : x &&& y = ((x % 2 ^ k) &&& (y % 2 ^ k)) + 2 ^ k * ((x / 2 ^ k) &&& (y / 2 ^ k)) := by
  rw [← Nat.and_mod_two_pow, ← Nat.and_div_two_pow]
  exact (Nat.mod_add_div _ _).symm
def zn_5 : Nat → Nat
  | 0 => 0
  | k + 1 => 5 + 16 * zn_5 k
def zn_3 : Nat → Nat
  | 0 => 0
  | k + 1 => 3 + 16 * zn_3 k
def zn_F : Nat → Nat
  | 0 => 0
  | k + 1 => 15 + 256 * zn_F k
def zn_q2 : Nat → Nat → Nat
  | 0, _ => 0
  | k + 1, n => zn_4 (n % 16) + 16 * zn_q2 k (n / 16)
def zn_q3 : Nat → Nat → Nat
  | 0, _ => 0
  | k + 1, n => zn_4 (n % 16) + zn_4 (n / 16 % 16) + 256 * zn_q3 k (n / 256)
def zn_c : Nat → Nat → Nat
  | 0, _ => 0
  | k + 1, n => zn_4 (n % 16) + zn_4 (n / 16 % 16) + zn_c k (n / 256)
theorem zn_4le (a : Nat) : zn_4 a ≤ 4 := by unfold zn_4; omega
theorem zn_s1 : ∀ a, a < 16 → ∀ b, b < 2 → ((a / 2 + 8 * b) % 16 &&& 5) = (a / 2 &&& 5) ∧ (a / 2 &&& 5) ≤ a ∧ a - (a / 2 &&& 5) < 16 ∧ ∀ c, c < 4 → ((a - (a / 2 &&& 5)) &&& 3) + (((a - (a / 2 &&& 5)) / 4 + 4 * c) % 16 &&& 3) = zn_4 a := by decide +kernel
theorem zn_A : ∀ k n, n < 16 ^ k → (n / 2 &&& zn_5 k) ≤ n ∧ ((n - (n / 2 &&& zn_5 k)) &&& zn_3 k) + ((n - (n / 2 &&& zn_5 k)) / 4 &&& zn_3 k) = zn_q2 k n
  | 0, n, h => by
    have h0 : n = 0 := by omega
    subst h0
    exact ⟨Nat.le_refl _, rfl⟩
  | k + 1, n, h => by
    have h1 : n / 16 < 16 ^ k := by rw [Nat.pow_succ] at h; omega
    obtain ⟨i1, i2⟩ := zn_A k (n / 16) h1
    obtain ⟨s1, s2, s3, s4⟩ := zn_s1 (n % 16) (by omega) (n / 16 % 2) (by omega)
    have e0 : n / 2 % 2 ^ 4 = (n % 16 / 2 + 8 * (n / 16 % 2)) % 16 := by omega
    have e1 : n / 2 / 2 ^ 4 = n / 16 / 2 := by omega
    have e2 : zn_5 (k + 1) % 2 ^ 4 = 5 := by show (5 + 16 * zn_5 k) % 2 ^ 4 = 5; omega
    have e3 : zn_5 (k + 1) / 2 ^ 4 = zn_5 k := by show (5 + 16 * zn_5 k) / 2 ^ 4 = zn_5 k; omega
    have e4 : zn_3 (k + 1) % 2 ^ 4 = 3 := by show (3 + 16 * zn_3 k) % 2 ^ 4 = 3; omega
    have e5 : zn_3 (k + 1) / 2 ^ 4 = zn_3 k := by show (3 + 16 * zn_3 k) / 2 ^ 4 = zn_3 k; omega
    have e6 : (n / 2 &&& zn_5 (k + 1)) = (n % 16 / 2 &&& 5) + 16 * (n / 16 / 2 &&& zn_5 k) := by
      rw [zn_and (n / 2) (zn_5 (k + 1)) 4, e0, e1, e2, e3, s1]
    have e7 : n - (n / 2 &&& zn_5 (k + 1)) = (n % 16 - (n % 16 / 2 &&& 5)) + 16 * (n / 16 - (n / 16 / 2 &&& zn_5 k)) := by
      rw [e6]; omega
    refine ⟨by rw [e6]; omega, ?_⟩
    rw [e7]
    generalize hm : n / 16 - (n / 16 / 2 &&& zn_5 k) = m at i2 ⊢
    generalize ha : n % 16 - (n % 16 / 2 &&& 5) = a at s3 s4 ⊢
    have f0 : (a + 16 * m) % 2 ^ 4 = a := by omega
    have f1 : (a + 16 * m) / 2 ^ 4 = m := by omega
    have f2 : (a + 16 * m) / 4 % 2 ^ 4 = (a / 4 + 4 * (m % 4)) % 16 := by omega
    have f3 : (a + 16 * m) / 4 / 2 ^ 4 = m / 4 := by omega
    rw [zn_and (a + 16 * m) (zn_3 (k + 1)) 4, zn_and ((a + 16 * m) / 4) (zn_3 (k + 1)) 4, f0, f1, f2, f3, e4, e5]
    have f4 := s4 (m % 4) (by omega)
    show _ = zn_4 (n % 16) + 16 * zn_q2 k (n / 16)
    rw [← i2, ← f4]
    omega
theorem zn_s3 : ∀ c, c < 9 → ∀ d, d < 9 → (c + 16 * d) % 256 &&& 15 = c := by decide +kernel
theorem zn_q2m : ∀ k n, zn_q2 k n % 16 ≤ 4
  | 0, _ => by decide
  | k + 1, n => by
    have := zn_4le (n % 16)
    show (zn_4 (n % 16) + 16 * zn_q2 k (n / 16)) % 16 ≤ 4
    omega
theorem zn_B : ∀ k n, ((zn_q2 (k + k) n + zn_q2 (k + k) n / 16) &&& zn_F k) = zn_q3 k n
  | 0, _ => rfl
  | k + 1, n => by
    have ih := zn_B k (n / 256)
    have h1 := zn_4le (n % 16)
    have h2 := zn_4le (n / 16 % 16)
    have e0 : zn_q2 (k + 1 + (k + 1)) n = zn_4 (n % 16) + 16 * (zn_4 (n / 16 % 16) + 16 * zn_q2 (k + k) (n / 256)) := by
      rw [show k + 1 + (k + 1) = k + k + 1 + 1 from by omega]
      show zn_4 (n % 16) + 16 * (zn_4 (n / 16 % 16) + 16 * zn_q2 (k + k) (n / 16 / 16)) = _
      rw [Nat.div_div_eq_div_mul]
    have e2 : zn_F (k + 1) % 2 ^ 8 = 15 := by show (15 + 256 * zn_F k) % 2 ^ 8 = 15; omega
    have e3 : zn_F (k + 1) / 2 ^ 8 = zn_F k := by show (15 + 256 * zn_F k) / 2 ^ 8 = zn_F k; omega
    have h3 := zn_q2m (k + k) (n / 256)
    rw [e0]
    show _ = zn_4 (n % 16) + zn_4 (n / 16 % 16) + 256 * zn_q3 k (n / 256)
    rw [← ih]
    generalize zn_q2 (k + k) (n / 256) = y at h3 ⊢
    generalize zn_4 (n % 16) = a at h1 ⊢
    generalize zn_4 (n / 16 % 16) = b at h2 ⊢
    have f0 : (a + 16 * (b + 16 * y) + (a + 16 * (b + 16 * y)) / 16) % 2 ^ 8 = ((a + b) + 16 * (b + y % 16)) % 256 := by omega
    have f1 : (a + 16 * (b + 16 * y) + (a + 16 * (b + 16 * y)) / 16) / 2 ^ 8 = y + y / 16 := by omega
    rw [zn_and _ (zn_F (k + 1)) 8, f0, f1, e2, e3, zn_s3 (a + b) (by omega) (b + y % 16) (by omega)]
theorem zn_q3m (k n : Nat) : ∃ c d, zn_q3 (k + 1) n = c + 256 * d ∧ zn_c (k + 1) n = c + zn_c k (n / 256) ∧ d = zn_q3 k (n / 256) ∧ c ≤ 8 := by
  refine ⟨zn_4 (n % 16) + zn_4 (n / 16 % 16), zn_q3 k (n / 256), rfl, rfl, rfl, ?_⟩
  have h1 := zn_4le (n % 16)
  have h2 := zn_4le (n / 16 % 16)
  omega
theorem zn_C (n : Nat) : ((zn_q3 8 n + zn_q3 8 n / 256) + (zn_q3 8 n + zn_q3 8 n / 256) / 65536 + ((zn_q3 8 n + zn_q3 8 n / 256) + (zn_q3 8 n + zn_q3 8 n / 256) / 65536) / 4294967296) % 128 = zn_c 8 n ∧ zn_q3 8 n < 2 ^ 60 ∧ zn_c 8 n ≤ 64 := by
  obtain ⟨c0, d0, a0, b0, g0, l0⟩ := zn_q3m 7 n
  obtain ⟨c1, d1, a1, b1, g1, l1⟩ := zn_q3m 6 (n / 256)
  obtain ⟨c2, d2, a2, b2, g2, l2⟩ := zn_q3m 5 (n / 256 / 256)
  obtain ⟨c3, d3, a3, b3, g3, l3⟩ := zn_q3m 4 (n / 256 / 256 / 256)
  obtain ⟨c4, d4, a4, b4, g4, l4⟩ := zn_q3m 3 (n / 256 / 256 / 256 / 256)
  obtain ⟨c5, d5, a5, b5, g5, l5⟩ := zn_q3m 2 (n / 256 / 256 / 256 / 256 / 256)
  obtain ⟨c6, d6, a6, b6, g6, l6⟩ := zn_q3m 1 (n / 256 / 256 / 256 / 256 / 256 / 256)
  obtain ⟨c7, d7, a7, b7, g7, l7⟩ := zn_q3m 0 (n / 256 / 256 / 256 / 256 / 256 / 256 / 256)
  have z0 : d7 = 0 := g7
  have z1 : zn_c 0 (n / 256 / 256 / 256 / 256 / 256 / 256 / 256 / 256) = 0 := rfl
  have hc : zn_c 8 n = c0 + c1 + c2 + c3 + c4 + c5 + c6 + c7 := by omega
  have hq : zn_q3 8 n = c0 + 256 * (c1 + 256 * (c2 + 256 * (c3 + 256 * (c4 + 256 * (c5 + 256 * (c6 + 256 * c7)))))) := by omega
  rw [hc, hq]
  clear hc hq a0 b0 g0 a1 b1 g1 a2 b2 g2 a3 b3 g3 a4 b4 g4 a5 b5 g5 a6 b6 g6 a7 b7 g7 z0 z1
  have e1 : (c0 + 256 * (c1 + 256 * (c2 + 256 * (c3 + 256 * (c4 + 256 * (c5 + 256 * (c6 + 256 * c7))))))) / 256 = c1 + 256 * (c2 + 256 * (c3 + 256 * (c4 + 256 * (c5 + 256 * (c6 + 256 * c7))))) := by omega
  rw [e1]
  have e2 : (c0 + 256 * (c1 + 256 * (c2 + 256 * (c3 + 256 * (c4 + 256 * (c5 + 256 * (c6 + 256 * c7))))))) + (c1 + 256 * (c2 + 256 * (c3 + 256 * (c4 + 256 * (c5 + 256 * (c6 + 256 * c7)))))) = (c0 + c1) + 256 * (c1 + c2) + 65536 * ((c2 + c3) + 256 * (c3 + c4) + 65536 * ((c4 + c5) + 256 * (c5 + c6) + 65536 * ((c6 + c7) + 256 * c7))) := by omega
  rw [e2]
  have e3 : ((c0 + c1) + 256 * (c1 + c2) + 65536 * ((c2 + c3) + 256 * (c3 + c4) + 65536 * ((c4 + c5) + 256 * (c5 + c6) + 65536 * ((c6 + c7) + 256 * c7)))) / 65536 = ((c2 + c3) + 256 * (c3 + c4) + 65536 * ((c4 + c5) + 256 * (c5 + c6) + 65536 * ((c6 + c7) + 256 * c7))) := by omega
  rw [e3]
  refine ⟨?_, by omega, by omega⟩
  have e4 : ((c0 + c1) + 256 * (c1 + c2) + 65536 * ((c2 + c3) + 256 * (c3 + c4) + 65536 * ((c4 + c5) + 256 * (c5 + c6) + 65536 * ((c6 + c7) + 256 * c7)))) + ((c2 + c3) + 256 * (c3 + c4) + 65536 * ((c4 + c5) + 256 * (c5 + c6) + 65536 * ((c6 + c7) + 256 * c7))) = (c0 + c1 + c2 + c3) + 256 * (c1 + c2 + c3 + c4) + 65536 * ((c2 + c3 + c4 + c5) + 256 * (c3 + c4 + c5 + c6)) + 4294967296 * ((c4 + c5 + c6 + c7) + 256 * (c5 + c6 + c7) + 65536 * ((c6 + c7) + 256 * c7)) := by omega
  rw [e4]
  have e5 : ((c0 + c1 + c2 + c3) + 256 * (c1 + c2 + c3 + c4) + 65536 * ((c2 + c3 + c4 + c5) + 256 * (c3 + c4 + c5 + c6)) + 4294967296 * ((c4 + c5 + c6 + c7) + 256 * (c5 + c6 + c7) + 65536 * ((c6 + c7) + 256 * c7))) / 4294967296 = ((c4 + c5 + c6 + c7) + 256 * (c5 + c6 + c7) + 65536 * ((c6 + c7) + 256 * c7)) := by omega
  rw [e5]
  omega
theorem zn_ct4 : ∀ a, a < 16 → fb_ct (fun i => a.testBit i) 4 = zn_4 a := by decide +kernel
theorem zn_ct (n : Nat) : fb_ct (fun i => n.testBit i) 4 = zn_4 (n % 16) := by
  rw [← zn_ct4 (n % 16) (by omega)]
  refine fb_ct_cong fun i hi => ?_
  rw [show (16 : Nat) = 2 ^ 4 from rfl, Nat.testBit_mod_two_pow, decide_eq_true hi, Bool.true_and]
theorem zn_D : ∀ k n, fb_ct (fun i => n.testBit i) (8 * k) = zn_c k n
  | 0, _ => rfl
  | k + 1, n => by
    have e1 : (fun i => n.testBit (8 + i)) = fun i => (n / 256).testBit i := funext fun i => by
      rw [show (256 : Nat) = 2 ^ 8 from rfl, Nat.testBit_div_two_pow]
      rw [Nat.add_comm]
    have e2 : (fun i => n.testBit (4 + i)) = fun i => (n / 16).testBit i := funext fun i => by
      rw [show (16 : Nat) = 2 ^ 4 from rfl, Nat.testBit_div_two_pow]
      rw [Nat.add_comm]
    rw [show 8 * (k + 1) = 8 + 8 * k from by omega, fb_ct_split]
    show fb_ct _ 8 + fb_ct (fun i => n.testBit (8 + i)) (8 * k) = _
    rw [e1, zn_D k (n / 256), show (8 : Nat) = 4 + 4 from rfl, fb_ct_split, zn_ct]
    show zn_4 (n % 16) + fb_ct (fun i => n.testBit (4 + i)) 4 + _ = _
    rw [e2, zn_ct]
    rfl
end ZBC
section ZBC2
theorem uN_and (x y : Int64) : uN (x &&& y) = uN x &&& uN y := UInt64.toNat_and _ _
theorem uN_sub {x y : Int64} (h : uN y ≤ uN x) : uN (x - y) = uN x - uN y := by
  show (x.toUInt64 - y.toUInt64).toNat = _
  exact UInt64.toNat_sub_of_le _ _ (UInt64.le_iff_toNat_le.mpr h)
def zk_1 (p : Int64) : Int64 := p - ((p.toUInt64 >>> (((1 : Int32)).toInt64.toUInt64 &&& Int64.toUInt64 63)).toInt64 &&& (6148914691236517205 : Int64))
def zk_2 (p : Int64) : Int64 := (p &&& (3689348814741910323 : Int64)) + ((p.toUInt64 >>> (((2 : Int32)).toInt64.toUInt64 &&& Int64.toUInt64 63)).toInt64 &&& (3689348814741910323 : Int64))
def zk_3 (p : Int64) : Int64 := (p + (p.toUInt64 >>> (((4 : Int32)).toInt64.toUInt64 &&& Int64.toUInt64 63)).toInt64) &&& (1085102592571150095 : Int64)
def zk_4 (k : Int32) (p : Int64) : Int64 := p + (p.toUInt64 >>> ((k).toInt64.toUInt64 &&& Int64.toUInt64 63)).toInt64
theorem zk_bc (x : Int64) (h : zx_H) : f_Long_bitCount x h = some ((zk_4 32 (zk_4 16 (zk_4 8 (zk_3 (zk_2 (zk_1 x)))))).toInt32 &&& (127 : Int32), h) := rfl
theorem uN_sk' (x : Int64) (c : Int32) {k : Nat} (hc : c = nI k) (hk : k < 64) : uN (x.toUInt64 >>> ((c).toInt64.toUInt64 &&& Int64.toUInt64 63)).toInt64 = uN x / 2 ^ k := by
  subst hc; exact uN_sk x hk
theorem zk_i (x : Int64) : x.toInt32 &&& (127 : Int32) = nI (uN x % 128) := by
  obtain ⟨n, hn, rfl⟩ := wb_of x
  have h1 : uN (lN n) = n := by
    show (lN n).toBitVec.toNat = n
    exact wb_tn hn
  rw [lN_i, h1, show (127 : Int32) = nI 127 from rfl]
  apply Int32.toBitVec_inj.1
  apply BitVec.eq_of_toNat_eq
  show (BitVec.ofNat 32 n &&& BitVec.ofNat 32 127).toNat = (BitVec.ofNat 32 (n % 128)).toNat
  rw [BitVec.toNat_and, BitVec.toNat_ofNat, BitVec.toNat_ofNat, BitVec.toNat_ofNat]
  rw [show 127 % 2 ^ 32 = 2 ^ 7 - 1 from rfl, Nat.and_two_pow_sub_one_eq_mod]
  omega
theorem zk_cnt (x : Int64) (h : zx_H) : f_Long_bitCount x h = some (nI (fb_ct (zbt x) 64), h) := by
  rw [zk_bc, zk_i]
  have hx : uN x < 16 ^ 16 := uN_lt x
  obtain ⟨a1, a2⟩ := zn_A 16 (uN x) hx
  have m5 : zn_5 16 = uN 6148914691236517205 := by decide +kernel
  have m3 : zn_3 16 = uN 3689348814741910323 := by decide +kernel
  have mF : zn_F 8 = uN 1085102592571150095 := by decide +kernel
  have e1 : uN (zk_1 x) = uN x - (uN x / 2 &&& zn_5 16) := by
    unfold zk_1
    rw [uN_sub, uN_and, uN_sk' x 1 (k := 1) rfl (by decide), m5, Nat.pow_one]
    rw [uN_and, uN_sk' x 1 (k := 1) rfl (by decide), ← m5, Nat.pow_one]
    exact a1
  have hB := zn_B 8 (uN x)
  have hC := zn_C (uN x)
  have hq2 : zn_q2 16 (uN x) < 2 ^ 63 := by
    rw [← a2]
    have b1 : ((uN x - (uN x / 2 &&& zn_5 16)) &&& zn_3 16) ≤ zn_3 16 := Nat.and_le_right
    have b2 : ((uN x - (uN x / 2 &&& zn_5 16)) / 4 &&& zn_3 16) ≤ zn_3 16 := Nat.and_le_right
    have b3 : zn_3 16 = 3689348814741910323 := by decide +kernel
    omega
  have e2 : uN (zk_2 (zk_1 x)) = zn_q2 16 (uN x) := by
    unfold zk_2
    rw [uN_add, uN_and, uN_and, uN_sk' _ 2 (k := 2) rfl (by decide), e1, ← m3, show (2 : Nat) ^ 2 = 4 from rfl, a2]
    omega
  have e3 : uN (zk_3 (zk_2 (zk_1 x))) = zn_q3 8 (uN x) := by
    unfold zk_3
    rw [uN_and, uN_add, uN_sk' _ 4 (k := 4) rfl (by decide), e2, ← mF, show (2 : Nat) ^ 4 = 16 from rfl, ← hB]
    rw [Nat.mod_eq_of_lt (by omega)]
  have s4 : ∀ (k : Int32) (m : Nat) (y : Int64), k = nI m → m < 64 → uN y < 2 ^ 62 → 0 < m → uN (zk_4 k y) = uN y + uN y / 2 ^ m := by
    intro k m y hk hm hy h0
    unfold zk_4
    rw [uN_add, uN_sk' y k hk hm, Nat.mod_eq_of_lt]
    have : uN y / 2 ^ m ≤ uN y := Nat.div_le_self _ _
    omega
  have e4 : uN (zk_4 8 (zk_3 (zk_2 (zk_1 x)))) = zn_q3 8 (uN x) + zn_q3 8 (uN x) / 256 := by
    rw [s4 8 8 _ rfl (by decide) (by rw [e3]; omega) (by decide), e3]
  have e5 := s4 16 16 (zk_4 8 (zk_3 (zk_2 (zk_1 x)))) rfl (by decide) (by rw [e4]; omega) (by decide)
  rw [e4] at e5
  have e6 := s4 32 32 (zk_4 16 (zk_4 8 (zk_3 (zk_2 (zk_1 x))))) rfl (by decide) (by rw [e5]; omega) (by decide)
  rw [e5] at e6
  rw [e6, show (2 : Nat) ^ 16 = 65536 from rfl, show (2 : Nat) ^ 32 = 4294967296 from rfl, hC.1, ← zn_D 8 (uN x)]
  rfl
theorem zB_ct {p : Nat → Bool} {n : Nat} (hn : n ≤ 64) : fb_ct (zbt (zB p n)) 64 = fb_ct p n := by
  have e : fb_ct (zbt (zB p n)) 64 = fb_ct (fun i => decide (i < n) && p i) 64 := fb_ct_cong fun i _ => zbt_zB p hn i
  rw [e, show (64 : Nat) = n + (64 - n) from by omega, fb_ct_split]
  have e1 : fb_ct (fun i => decide (i < n) && p i) n = fb_ct p n := fb_ct_cong fun i hi => by rw [decide_eq_true hi, Bool.true_and]
  have e2 : fb_ct (fun k => decide (n + k < n) && p (n + k)) (64 - n) = 0 := fb_ct_zero.mpr fun k _ => by rw [decide_eq_false (by omega), Bool.false_and]
  rw [e1, e2]
  rfl
theorem zB_cnt {p : Nat → Bool} {n : Nat} (hn : n ≤ 64) (h : zx_H) : f_Long_bitCount (zB p n) h = some (nI (fb_ct p n), h) := by rw [zk_cnt, zB_ct hn]
/-- of a truth value an int -/
def zb (b : Bool) : Int32 := if b = true then 1 else 0
theorem zb_0 {b : Bool} : zb b = 0 ↔ b = false := by cases b <;> decide
theorem zb_n0 {b : Bool} : ¬ zb b = 0 ↔ b = true := by cases b <;> decide
theorem zB_holds {p : Nat → Bool} {n i : Nat} (hn : n ≤ 40) (hi : i < 2 ^ 31) (h : zx_H) : f_ColumnVault_holdsRow (zB p n) (nI i) h = some (zb (decide (i < n) && p i), h) := by
  unfold f_ColumnVault_holdsRow
  rw [if_neg (nI_pos hi)]
  rcases Nat.lt_or_ge i 40 with h1 | h1
  · rw [if_neg (show ¬ (40 : Int32) ≤ nI i from nI_ge (b := 40) h1 (by decide))]
    by_cases hb : (decide (i < n) && p i) = true
    · rw [if_neg (by rw [zbt_test (by omega), zbt_zB p (by omega), hb]; decide), hb]; rfl
    · have hb := ts_nt hb
      rw [if_pos (by rw [zbt_test (by omega), zbt_zB p (by omega), hb]), hb]; rfl
  · rw [if_pos (show (40 : Int32) ≤ nI i from nI_le (a := 40) h1 hi), decide_eq_false (by omega)]; rfl
end ZBC2
