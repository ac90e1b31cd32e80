/-! ===== how many bits ===== -/
section ZBC
def zn_4 (a : Nat) : Nat := a % 2 + a / 2 % 2 + a / 4 % 2 + a / 8 % 2
theorem zn_and (x y k : Nat) : x &&& y = ((x % 2 ^ k) &&& (y % 2 ^ k)) + 2 ^ k * ((x / 2 ^ k) &&& (y / 2 ^ k)) := by
  rw [← Nat.and_mod_two_pow, ← Nat.and_div_two_pow]
  exact (Nat.mod_add_div _ _).symm
def zn_5 : Nat → Nat
  | 0 => 0
  | k + 1 => 5 + 16 * zn_5 k
def zn_3 : Nat → Nat
  | 0 => 0
  | k + 1 => 3 + 16 * zn_3 k
def zn_F : Nat → Nat
  | 0 => 0
  | k + 1 => 15 + 256 * zn_F k
def zn_q2 : Nat → Nat → Nat
  | 0, _ => 0
  | k + 1, n => zn_4 (n % 16) + 16 * zn_q2 k (n / 16)
def zn_q3 : Nat → Nat → Nat
  | 0, _ => 0
  | k + 1, n => zn_4 (n % 16) + zn_4 (n / 16 % 16) + 256 * zn_q3 k (n / 256)
def zn_c : Nat → Nat → Nat
  | 0, _ => 0
  | k + 1, n => zn_4 (n % 16) + zn_4 (n / 16 % 16) + zn_c k (n / 256)
theorem zn_4le (a : Nat) : zn_4 a ≤ 4 := by unfold zn_4; omega
theorem zn_s1 : ∀ a, a < 16 → ∀ b, b < 2 → ((a / 2 + 8 * b) % 16 &&& 5) = (a / 2 &&& 5) ∧ (a / 2 &&& 5) ≤ a ∧ a - (a / 2 &&& 5) < 16 ∧ ∀ c, c < 4 → ((a - (a / 2 &&& 5)) &&& 3) + (((a - (a / 2 &&& 5)) / 4 + 4 * c) % 16 &&& 3) = zn_4 a := by decide +kernel
theorem zn_A : ∀ k n, n < 16 ^ k → (n / 2 &&& zn_5 k) ≤ n ∧ ((n - (n / 2 &&& zn_5 k)) &&& zn_3 k) + ((n - (n / 2 &&& zn_5 k)) / 4 &&& zn_3 k) = zn_q2 k n
  | 0, n, h => by
    have h0 : n = 0 := by omega
    subst h0
    exact ⟨Nat.le_refl _, rfl⟩
  | k + 1, n, h => by
    have h1 : n / 16 < 16 ^ k := by rw [Nat.pow_succ] at h; omega
    obtain ⟨i1, i2⟩ := zn_A k (n / 16) h1
    obtain ⟨s1, s2, s3, s4⟩ := zn_s1 (n % 16) (by omega) (n / 16 % 2) (by omega)
    have e0 : n / 2 % 2 ^ 4 = (n % 16 / 2 + 8 * (n / 16 % 2)) % 16 := by omega
    have e1 : n / 2 / 2 ^ 4 = n / 16 / 2 := by omega
    have e2 : zn_5 (k + 1) % 2 ^ 4 = 5 := by show (5 + 16 * zn_5 k) % 2 ^ 4 = 5; omega
    have e3 : zn_5 (k + 1) / 2 ^ 4 = zn_5 k := by show (5 + 16 * zn_5 k) / 2 ^ 4 = zn_5 k; omega
    have e4 : zn_3 (k + 1) % 2 ^ 4 = 3 := by show (3 + 16 * zn_3 k) % 2 ^ 4 = 3; omega
    have e5 : zn_3 (k + 1) / 2 ^ 4 = zn_3 k := by show (3 + 16 * zn_3 k) / 2 ^ 4 = zn_3 k; omega
    have e6 : (n / 2 &&& zn_5 (k + 1)) = (n % 16 / 2 &&& 5) + 16 * (n / 16 / 2 &&& zn_5 k) := by
      rw [zn_and (n / 2) (zn_5 (k + 1)) 4, e0, e1, e2, e3, s1]
    have e7 : n - (n / 2 &&& zn_5 (k + 1)) = (n % 16 - (n % 16 / 2 &&& 5)) + 16 * (n / 16 - (n / 16 / 2 &&& zn_5 k)) := by
      rw [e6]; omega
    refine ⟨by rw [e6]; omega, ?_⟩
    rw [e7]
    generalize hm : n / 16 - (n / 16 / 2 &&& zn_5 k) = m at i2 ⊢
    generalize ha : n % 16 - (n % 16 / 2 &&& 5) = a at s3 s4 ⊢
    have f0 : (a + 16 * m) % 2 ^ 4 = a := by omega
    have f1 : (a + 16 * m) / 2 ^ 4 = m := by omega
    have f2 : (a + 16 * m) / 4 % 2 ^ 4 = (a / 4 + 4 * (m % 4)) % 16 := by omega
    have f3 : (a + 16 * m) / 4 / 2 ^ 4 = m / 4 := by omega
    rw [zn_and (a + 16 * m) (zn_3 (k + 1)) 4, zn_and ((a + 16 * m) / 4) (zn_3 (k + 1)) 4, f0, f1, f2, f3, e4, e5]
    have f4 := s4 (m % 4) (by omega)
    show _ = zn_4 (n % 16) + 16 * zn_q2 k (n / 16)
    rw [← i2, ← f4]
    omega
theorem zn_s3 : ∀ c, c < 9 → ∀ d, d < 9 → (c + 16 * d) % 256 &&& 15 = c := by decide +kernel
theorem zn_q2m : ∀ k n, zn_q2 k n % 16 ≤ 4
  | 0, _ => Nat.zero_le _
  | k + 1, n => by
    have := zn_4le (n % 16)
    show (zn_4 (n % 16) + 16 * zn_q2 k (n / 16)) % 16 ≤ 4
    omega
theorem zn_B : ∀ k n, ((zn_q2 (k + k) n + zn_q2 (k + k) n / 16) &&& zn_F k) = zn_q3 k n
  | 0, _ => by
    show ((0 + 0 / 16) &&& 0) = 0
    decide
  | k + 1, n => by
    have ih := zn_B k (n / 256)
    have h1 := zn_4le (n % 16)
    have h2 := zn_4le (n / 16 % 16)
    have e0 : zn_q2 (k + 1 + (k + 1)) n = zn_4 (n % 16) + 16 * (zn_4 (n / 16 % 16) + 16 * zn_q2 (k + k) (n / 256)) := by
      rw [show k + 1 + (k + 1) = k + k + 1 + 1 from by omega]
      show zn_4 (n % 16) + 16 * (zn_4 (n / 16 % 16) + 16 * zn_q2 (k + k) (n / 16 / 16)) = _
      rw [Nat.div_div_eq_div_mul]
    have e2 : zn_F (k + 1) % 2 ^ 8 = 15 := by show (15 + 256 * zn_F k) % 2 ^ 8 = 15; omega
    have e3 : zn_F (k + 1) / 2 ^ 8 = zn_F k := by show (15 + 256 * zn_F k) / 2 ^ 8 = zn_F k; omega
    have h3 := zn_q2m (k + k) (n / 256)
    rw [e0]
    show _ = zn_4 (n % 16) + zn_4 (n / 16 % 16) + 256 * zn_q3 k (n / 256)
    rw [← ih]
    generalize zn_q2 (k + k) (n / 256) = y at h3 ⊢
    generalize zn_4 (n % 16) = a at h1 ⊢
    generalize zn_4 (n / 16 % 16) = b at h2 ⊢
    have f0 : (a + 16 * (b + 16 * y) + (a + 16 * (b + 16 * y)) / 16) % 2 ^ 8 = ((a + b) + 16 * (b + y % 16)) % 256 := by omega
    have f1 : (a + 16 * (b + 16 * y) + (a + 16 * (b + 16 * y)) / 16) / 2 ^ 8 = y + y / 16 := by omega
    rw [zn_and _ (zn_F (k + 1)) 8, f0, f1, e2, e3, zn_s3 (a + b) (by omega) (b + y % 16) (by omega)]
theorem zn_q3m (k n : Nat) : ∃ c d, zn_q3 (k + 1) n = c + 256 * d ∧ zn_c (k + 1) n = c + zn_c k (n / 256) ∧ d = zn_q3 k (n / 256) ∧ c ≤ 8 := by
  refine ⟨zn_4 (n % 16) + zn_4 (n / 16 % 16), zn_q3 k (n / 256), rfl, rfl, rfl, ?_⟩
  have h1 := zn_4le (n % 16)
  have h2 := zn_4le (n / 16 % 16)
  omega
theorem zn_C1 {c y : Nat} (h : c ≤ 8) : (c + 256 * y) / 256 = y := by omega
theorem zn_C2 {a b y : Nat} (h : a ≤ 16) (h2 : b ≤ 16) : (a + 256 * b + 65536 * y) / 65536 = y := by omega
theorem zn_C3 {a b d y : Nat} (h : a ≤ 32) (h2 : b ≤ 32) (h3 : d ≤ 16448) : (a + 256 * b + 65536 * d + 4294967296 * y) / 4294967296 = y := by omega
theorem zn_C4 {a y : Nat} (h : a ≤ 64) : (a + 256 * y) % 128 = a := by omega
theorem zn_C (n : Nat) : ((zn_q3 8 n + zn_q3 8 n / 256) + (zn_q3 8 n + zn_q3 8 n / 256) / 65536 + ((zn_q3 8 n + zn_q3 8 n / 256) + (zn_q3 8 n + zn_q3 8 n / 256) / 65536) / 4294967296) % 128 = zn_c 8 n ∧ zn_q3 8 n < 2 ^ 60 ∧ zn_c 8 n ≤ 64 := by
  obtain ⟨c0, y1, a0, b0, g0, l0⟩ := zn_q3m 7 n
  obtain ⟨c1, y2, a1, b1, g1, l1⟩ := zn_q3m 6 (n / 256)
  obtain ⟨c2, y3, a2, b2, g2, l2⟩ := zn_q3m 5 (n / 256 / 256)
  obtain ⟨c3, y4, a3, b3, g3, l3⟩ := zn_q3m 4 (n / 256 / 256 / 256)
  obtain ⟨c4, y5, a4, b4, g4, l4⟩ := zn_q3m 3 (n / 256 / 256 / 256 / 256)
  obtain ⟨c5, y6, a5, b5, g5, l5⟩ := zn_q3m 2 (n / 256 / 256 / 256 / 256 / 256)
  obtain ⟨c6, y7, a6, b6, g6, l6⟩ := zn_q3m 1 (n / 256 / 256 / 256 / 256 / 256 / 256)
  obtain ⟨c7, y8, a7, b7, g7, l7⟩ := zn_q3m 0 (n / 256 / 256 / 256 / 256 / 256 / 256 / 256)
  have z0 : y8 = 0 := g7
  have z1 : zn_c 0 (n / 256 / 256 / 256 / 256 / 256 / 256 / 256 / 256) = 0 := rfl
  have x1 : y1 = c1 + 256 * y2 := g0.trans a1
  have x2 : y2 = c2 + 256 * y3 := g1.trans a2
  have x3 : y3 = c3 + 256 * y4 := g2.trans a3
  have x4 : y4 = c4 + 256 * y5 := g3.trans a4
  have x5 : y5 = c5 + 256 * y6 := g4.trans a5
  have x6 : y6 = c6 + 256 * y7 := g5.trans a6
  have x7 : y7 = c7 := by rw [g6.trans a7, z0]; rfl
  have hc : zn_c 8 n = c0 + (c1 + (c2 + (c3 + (c4 + (c5 + (c6 + (c7 + 0))))))) := by rw [b0, b1, b2, b3, b4, b5, b6, b7, z1]
  have hq : zn_q3 8 n = c0 + 256 * y1 := a0
  clear a0 a1 a2 a3 a4 a5 a6 a7 b0 b1 b2 b3 b4 b5 b6 b7 g0 g1 g2 g3 g4 g5 g6 g7 z1
  rw [hq, zn_C1 l0]
  have e2 : c0 + 256 * y1 + y1 = (c0 + c1) + 256 * (c1 + c2) + 65536 * (y2 + y3) := by rw [x1, x2]; omega
  rw [e2, zn_C2 (show c0 + c1 ≤ 16 by omega) (show c1 + c2 ≤ 16 by omega)]
  have e3 : (c0 + c1) + 256 * (c1 + c2) + 65536 * (y2 + y3) + (y2 + y3) = (c0 + c1 + c2 + c3) + 256 * (c1 + c2 + c3 + c4) + 65536 * (((c2 + c3) + 256 * (c3 + c4)) + ((c4 + c5) + 256 * (c5 + c6))) + 4294967296 * (y4 + y5 + y6 + y7) := by
    have f1 : y2 + y3 = (c2 + c3) + 256 * (c3 + c4) + 65536 * (y4 + y5) := by rw [x2, x3, x4]; omega
    have f2 : y4 + y5 = (c4 + c5) + 256 * (c5 + c6) + 65536 * (y6 + y7) := by rw [x4, x5, x6]; omega
    rw [f1]
    generalize y4 + y5 = z at f2 ⊢
    omega
  rw [e3, zn_C3 (show c0 + c1 + c2 + c3 ≤ 32 by omega) (show c1 + c2 + c3 + c4 ≤ 32 by omega) (by omega)]
  refine ⟨?_, ?_, by omega⟩
  · have e4 : (c0 + c1 + c2 + c3) + 256 * (c1 + c2 + c3 + c4) + 65536 * (((c2 + c3) + 256 * (c3 + c4)) + ((c4 + c5) + 256 * (c5 + c6))) + 4294967296 * (y4 + y5 + y6 + y7) + (y4 + y5 + y6 + y7) = (c0 + (c1 + (c2 + (c3 + (c4 + (c5 + (c6 + (c7 + 0)))))))) + 256 * ((c1 + c2 + c3 + c4) + 256 * (((c2 + c3) + 256 * (c3 + c4)) + ((c4 + c5) + 256 * (c5 + c6))) + 16777216 * (y4 + y5 + y6 + y7) + y5 + y6 + y7) := by
      have f4 : y4 + y5 + y6 + y7 = c4 + c5 + c6 + c7 + 256 * (y5 + y6 + y7) := by
        have : y4 + y5 + y6 + y7 = (c4 + 256 * y5) + (c5 + 256 * y6) + (c6 + 256 * y7) + c7 := by rw [← x4, ← x5, ← x6, ← x7]
        omega
      generalize y4 + y5 + y6 + y7 = z at f4 ⊢
      omega
    rw [e4, zn_C4 (by omega), hc]
  · have k7 : y7 ≤ 8 := by omega
    have k6 : y6 ≤ 2056 := by omega
    have k5 : y5 ≤ 526344 := by omega
    have k4 : y4 ≤ 134744072 := by omega
    have k3 : y3 ≤ 34494482440 := by omega
    have k2 : y2 ≤ 8830587504648 := by omega
    have k1 : y1 ≤ 2260630401189896 := by omega
    omega
theorem zn_ct4 : ∀ a, a < 16 → fb_ct (fun i => a.testBit i) 4 = zn_4 a := by decide +kernel
theorem zn_ct (n : Nat) : fb_ct (fun i => n.testBit i) 4 = zn_4 (n % 16) := by
  rw [← zn_ct4 (n % 16) (by omega)]
  refine fb_ct_cong fun i hi => ?_
  rw [show (16 : Nat) = 2 ^ 4 from rfl, Nat.testBit_mod_two_pow, decide_eq_true hi, Bool.true_and]
theorem zn_D : ∀ k n, fb_ct (fun i => n.testBit i) (8 * k) = zn_c k n
  | 0, _ => rfl
  | k + 1, n => by
    have e1 : (fun i => n.testBit (8 + i)) = fun i => (n / 256).testBit i := funext fun i => by
      rw [show (256 : Nat) = 2 ^ 8 from rfl, Nat.testBit_div_two_pow]
      rw [Nat.add_comm]
    have e2 : (fun i => n.testBit (4 + i)) = fun i => (n / 16).testBit i := funext fun i => by
      rw [show (16 : Nat) = 2 ^ 4 from rfl, Nat.testBit_div_two_pow]
      rw [Nat.add_comm]
    rw [show 8 * (k + 1) = 8 + 8 * k from by omega, fb_ct_split]
    show fb_ct _ 8 + fb_ct (fun i => n.testBit (8 + i)) (8 * k) = _
    rw [e1, zn_D k (n / 256), show (8 : Nat) = 4 + 4 from rfl, fb_ct_split, zn_ct]
    show zn_4 (n % 16) + fb_ct (fun i => n.testBit (4 + i)) 4 + _ = _
    rw [e2, zn_ct]
    rfl
end ZBC
