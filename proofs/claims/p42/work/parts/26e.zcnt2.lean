section ZBC2
theorem uN_and (x y : Int64) : uN (x &&& y) = uN x &&& uN y := UInt64.toNat_and _ _
theorem uN_sub {x y : Int64} (h : uN y ≤ uN x) : uN (x - y) = uN x - uN y := by
  show (x.toUInt64 - y.toUInt64).toNat = _
  exact UInt64.toNat_sub_of_le _ _ (UInt64.le_iff_toNat_le.mpr h)
def zk_1 (p : Int64) : Int64 := p - ((p.toUInt64 >>> (((1 : Int32)).toInt64.toUInt64 &&& Int64.toUInt64 63)).toInt64 &&& (6148914691236517205 : Int64))
def zk_2 (p : Int64) : Int64 := (p &&& (3689348814741910323 : Int64)) + ((p.toUInt64 >>> (((2 : Int32)).toInt64.toUInt64 &&& Int64.toUInt64 63)).toInt64 &&& (3689348814741910323 : Int64))
def zk_3 (p : Int64) : Int64 := (p + (p.toUInt64 >>> (((4 : Int32)).toInt64.toUInt64 &&& Int64.toUInt64 63)).toInt64) &&& (1085102592571150095 : Int64)
def zk_4 (k : Int32) (p : Int64) : Int64 := p + (p.toUInt64 >>> ((k).toInt64.toUInt64 &&& Int64.toUInt64 63)).toInt64
theorem zk_bc (x : Int64) (h : zx_H) : f_Long_bitCount x h = some ((zk_4 32 (zk_4 16 (zk_4 8 (zk_3 (zk_2 (zk_1 x)))))).toInt32 &&& (127 : Int32), h) := by
  unfold f_Long_bitCount zk_4 zk_3 zk_2 zk_1
  rfl
theorem uN_sk' (x : Int64) (c : Int32) {k : Nat} (hc : c = nI k) (hk : k < 64) : uN (x.toUInt64 >>> ((c).toInt64.toUInt64 &&& Int64.toUInt64 63)).toInt64 = uN x / 2 ^ k := by
  subst hc; exact uN_sk x hk
theorem zk_i (x : Int64) : x.toInt32 &&& (127 : Int32) = nI (uN x % 128) := by
  obtain ⟨n, hn, rfl⟩ := wb_of x
  have h1 : uN (lN n) = n := by
    show (lN n).toBitVec.toNat = n
    exact wb_tn hn
  rw [lN_i, h1, show (127 : Int32) = nI 127 from rfl]
  apply Int32.toBitVec_inj.1
  apply BitVec.eq_of_toNat_eq
  show (BitVec.ofNat 32 n &&& BitVec.ofNat 32 127).toNat = (BitVec.ofNat 32 (n % 128)).toNat
  rw [BitVec.toNat_and, BitVec.toNat_ofNat, BitVec.toNat_ofNat, BitVec.toNat_ofNat]
  rw [show 127 % 2 ^ 32 = 2 ^ 7 - 1 from rfl, Nat.and_two_pow_sub_one_eq_mod]
  omega
theorem zk_cnt (x : Int64) (h : zx_H) : f_Long_bitCount x h = some (nI (fb_ct (zbt x) 64), h) := by
  rw [zk_bc, zk_i]
  have hx : uN x < 16 ^ 16 := uN_lt x
  obtain ⟨a1, a2⟩ := zn_A 16 (uN x) hx
  have m5 : zn_5 16 = uN 6148914691236517205 := by decide +kernel
  have m3 : zn_3 16 = uN 3689348814741910323 := by decide +kernel
  have mF : zn_F 8 = uN 1085102592571150095 := by decide +kernel
  have e1 : uN (zk_1 x) = uN x - (uN x / 2 &&& zn_5 16) := by
    unfold zk_1
    rw [uN_sub, uN_and, uN_sk' x 1 (k := 1) rfl (by decide), m5, Nat.pow_one]
    rw [uN_and, uN_sk' x 1 (k := 1) rfl (by decide), ← m5, Nat.pow_one]
    exact a1
  have hB := zn_B 8 (uN x)
  have hC := zn_C (uN x)
  have hq2 : zn_q2 16 (uN x) < 2 ^ 63 := by
    rw [← a2]
    have b1 : ((uN x - (uN x / 2 &&& zn_5 16)) &&& zn_3 16) ≤ zn_3 16 := Nat.and_le_right
    have b2 : ((uN x - (uN x / 2 &&& zn_5 16)) / 4 &&& zn_3 16) ≤ zn_3 16 := Nat.and_le_right
    have b3 : zn_3 16 = 3689348814741910323 := by decide +kernel
    omega
  have e2 : uN (zk_2 (zk_1 x)) = zn_q2 16 (uN x) := by
    unfold zk_2
    rw [uN_add, uN_and, uN_and, uN_sk' _ 2 (k := 2) rfl (by decide), e1, ← m3, show (2 : Nat) ^ 2 = 4 from rfl, a2]
    omega
  have e3 : uN (zk_3 (zk_2 (zk_1 x))) = zn_q3 8 (uN x) := by
    unfold zk_3
    rw [uN_and, uN_add, uN_sk' _ 4 (k := 4) rfl (by decide), e2, ← mF, show (2 : Nat) ^ 4 = 16 from rfl, ← hB]
    rw [Nat.mod_eq_of_lt (by omega)]
  have s4 : ∀ (k : Int32) (m : Nat) (y : Int64), k = nI m → m < 64 → uN y < 2 ^ 62 → 0 < m → uN (zk_4 k y) = uN y + uN y / 2 ^ m := by
    intro k m y hk hm hy h0
    unfold zk_4
    rw [uN_add, uN_sk' y k hk hm, Nat.mod_eq_of_lt]
    have : uN y / 2 ^ m ≤ uN y := Nat.div_le_self _ _
    omega
  have e4 : uN (zk_4 8 (zk_3 (zk_2 (zk_1 x)))) = zn_q3 8 (uN x) + zn_q3 8 (uN x) / 256 := by
    rw [s4 8 8 _ rfl (by decide) (by rw [e3]; omega) (by decide), e3]
  have e5 := s4 16 16 (zk_4 8 (zk_3 (zk_2 (zk_1 x)))) rfl (by decide) (by rw [e4]; omega) (by decide)
  rw [e4] at e5
  have e6 := s4 32 32 (zk_4 16 (zk_4 8 (zk_3 (zk_2 (zk_1 x))))) rfl (by decide) (by rw [e5]; omega) (by decide)
  rw [e5] at e6
  rw [e6, show (2 : Nat) ^ 16 = 65536 from rfl, show (2 : Nat) ^ 32 = 4294967296 from rfl, hC.1, ← zn_D 8 (uN x)]
  rfl
theorem zB_ct {p : Nat → Bool} {n : Nat} (hn : n ≤ 64) : fb_ct (zbt (zB p n)) 64 = fb_ct p n := by
  have e : fb_ct (zbt (zB p n)) 64 = fb_ct (fun i => decide (i < n) && p i) 64 := fb_ct_cong fun i _ => zbt_zB p hn i
  rw [e, show (64 : Nat) = n + (64 - n) from by omega, fb_ct_split]
  have e1 : fb_ct (fun i => decide (i < n) && p i) n = fb_ct p n := fb_ct_cong fun i hi => by rw [decide_eq_true hi, Bool.true_and]
  have e2 : fb_ct (fun k => decide (n + k < n) && p (n + k)) (64 - n) = 0 := fb_ct_zero.mpr fun k _ => by rw [decide_eq_false (by omega), Bool.false_and]
  rw [e1, e2]
  rfl
theorem zB_cnt {p : Nat → Bool} {n : Nat} (hn : n ≤ 64) (h : zx_H) : f_Long_bitCount (zB p n) h = some (nI (fb_ct p n), h) := by rw [zk_cnt, zB_ct hn]
/-- of a truth value an int -/
def zb (b : Bool) : Int32 := if b = true then 1 else 0
theorem zb_0 {b : Bool} : zb b = 0 ↔ b = false := by cases b <;> decide
theorem zb_n0 {b : Bool} : ¬ zb b = 0 ↔ b = true := by cases b <;> decide
theorem zB_holds {p : Nat → Bool} {n i : Nat} (hn : n ≤ 40) (hi : i < 2 ^ 31) (h : zx_H) : f_ColumnVault_holdsRow (zB p n) (nI i) h = some (zb (decide (i < n) && p i), h) := by
  unfold f_ColumnVault_holdsRow
  rw [if_neg (nI_pos hi)]
  rcases Nat.lt_or_ge i 40 with h1 | h1
  · rw [if_neg (show ¬ (40 : Int32) ≤ nI i from nI_ge (b := 40) h1 (by decide))]
    by_cases hb : (decide (i < n) && p i) = true
    · rw [if_neg (by rw [zbt_test (by omega), zbt_zB p (by omega), hb]; decide), hb]; rfl
    · have hb := ts_nt hb
      rw [if_pos (by rw [zbt_test (by omega), zbt_zB p (by omega), hb]), hb]; rfl
  · rw [if_pos (show (40 : Int32) ≤ nI i from nI_le (a := 40) h1 hi), decide_eq_false (by omega)]; rfl
end ZBC2
