/-! ===== sums, orders ===== -/
section ZPM
def zs (f : Nat → Int64) : Nat → Int64
  | 0 => 0
  | n + 1 => zs f n + f n
theorem zs_c {f g : Nat → Int64} : ∀ {n : Nat}, (∀ i, i < n → f i = g i) → zs f n = zs g n
  | 0, _ => rfl
  | n + 1, h => by
    show zs f n + f n = zs g n + g n
    rw [zs_c (n := n) fun i hi => h i (by omega), h n (by omega)]
def zsl (f : Nat → Int64) : List Nat → Int64
  | [] => 0
  | a :: l => f a + zsl f l
theorem zsl_app (f : Nat → Int64) : ∀ a b : List Nat, zsl f (a ++ b) = zsl f a + zsl f b
  | [], b => by
    show zsl f b = 0 + zsl f b
    rw [Int64.zero_add]
  | x :: a, b => by
    show f x + zsl f (a ++ b) = f x + zsl f a + zsl f b
    rw [zsl_app f a b, Int64.add_assoc]
theorem zs_l (f : Nat → Int64) : ∀ n, zs f n = zsl f (List.range n)
  | 0 => rfl
  | n + 1 => by
    rw [List.range_succ, zsl_app, ← zs_l f n]
    show zs f n + f n = zs f n + (f n + 0)
    rw [Int64.add_zero]
theorem zsl_perm {f : Nat → Int64} {a b : List Nat} (h : a.Perm b) : zsl f a = zsl f b := by
  induction h with
  | nil => rfl
  | cons x _ ih => show f x + _ = f x + _; rw [ih]
  | swap x y l =>
    show f y + (f x + zsl f l) = f x + (f y + zsl f l)
    rw [← Int64.add_assoc, ← Int64.add_assoc, Int64.add_comm (f y)]
  | trans _ _ i1 i2 => exact i1.trans i2
theorem zsl_map (f : Nat → Int64) (g : Nat → Nat) : ∀ l : List Nat, zsl f (l.map g) = zsl (fun i => f (g i)) l
  | [] => rfl
  | x :: l => by
    show f (g x) + zsl f (l.map g) = f (g x) + _
    rw [zsl_map f g l]
theorem zct_l (p : Nat → Bool) : ∀ n, fb_ct p n = (List.range n).countP p
  | 0 => rfl
  | n + 1 => by
    rw [fb_ct_succ, List.range_succ, List.countP_append, zct_l p n]
    by_cases h : p n = true <;> simp [h]
/-- an order of n things -/
def zPerm (o : Nat → Nat) (n : Nat) : Prop := (∀ i, i < n → o i < n) ∧ ∀ i j, i < j → j < n → o i ≠ o j
theorem zPerm_inj {o : Nat → Nat} {n i j : Nat} (h : zPerm o n) (hi : i < n) (hj : j < n) (e : o i = o j) : i = j := by
  rcases Nat.lt_trichotomy i j with h1 | h1 | h1
  · exact absurd e (h.2 i j h1 hj)
  · exact h1
  · exact absurd e.symm (h.2 j i h1 hi)
theorem zPerm_on {o : Nat → Nat} {n y : Nat} (h : zPerm o n) (hy : y < n) : ∃ i, i < n ∧ o i = y := fb_onto h.1 h.2 hy
theorem zPerm_p {o : Nat → Nat} {n : Nat} (h : zPerm o n) : ((List.range n).map o).Perm (List.range n) := by
  refine (List.perm_ext_iff_of_nodup ?_ List.nodup_range).mpr fun a => ?_
  · show List.Pairwise _ _
    rw [List.pairwise_map]
    refine List.Pairwise.imp_of_mem ?_ List.pairwise_lt_range
    intro a b ha hb hab
    exact h.2 a b hab (List.mem_range.mp hb)
  · rw [List.mem_map, List.mem_range]
    constructor
    · rintro ⟨i, hi, rfl⟩
      exact h.1 i (List.mem_range.mp hi)
    · intro ha
      obtain ⟨i, hi, e⟩ := zPerm_on h ha
      exact ⟨i, List.mem_range.mpr hi, e⟩
theorem zct_perm {o : Nat → Nat} {n : Nat} (h : zPerm o n) (p : Nat → Bool) : fb_ct (fun i => p (o i)) n = fb_ct p n := by
  rw [zct_l, zct_l, ← (zPerm_p h).countP_eq p, List.countP_map]
  rfl
theorem zs_perm {o : Nat → Nat} {n : Nat} (h : zPerm o n) (f : Nat → Int64) : zs (fun i => f (o i)) n = zs f n := (zs_l _ n).trans ((zsl_map f o _).symm.trans ((zsl_perm (zPerm_p h)).trans (zs_l f n).symm))
/-- the place of a row -/
def zpl (o : Nat → Nat) (r : Nat) : Nat → Nat
  | 0 => 0
  | n + 1 => if o n = r then n else zpl o r n
theorem zpl_o {o : Nat → Nat} {r : Nat} : ∀ {n : Nat}, (∃ i, i < n ∧ o i = r) → zpl o r n < n ∧ o (zpl o r n) = r
  | 0, h => by
    obtain ⟨i, hi, _⟩ := h
    exact absurd hi (Nat.not_lt_zero _)
  | n + 1, h => by
    show (if o n = r then n else zpl o r n) < n + 1 ∧ o (if o n = r then n else zpl o r n) = r
    by_cases e : o n = r
    · rw [if_pos e]; exact ⟨Nat.lt_succ_self _, e⟩
    · rw [if_neg e]
      obtain ⟨i, hi, he⟩ := h
      have h1 : i < n := by
        rcases Nat.lt_or_ge i n with h2 | h2
        · exact h2
        · have : i = n := by omega
          subst this; exact absurd he e
      obtain ⟨a, b⟩ := zpl_o (n := n) ⟨i, h1, he⟩
      exact ⟨by omega, b⟩
theorem zpl_r {o : Nat → Nat} {n r : Nat} (h : zPerm o n) (hr : r < n) : zpl o r n < n ∧ o (zpl o r n) = r := zpl_o (zPerm_on h hr)
theorem zpl_p {o : Nat → Nat} {n i : Nat} (h : zPerm o n) (hi : i < n) : zpl o (o i) n = i := zPerm_inj h (zpl_r h (h.1 i hi)).1 hi (zpl_r h (h.1 i hi)).2
end ZPM
/-! ===== numbers ===== -/
section ZNB
theorem zl_t (a b : Int64) : a < b ↔ a.toInt < b.toInt := Int64.lt_iff_toInt_lt
theorem zl_e (a b : Int64) : a ≤ b ↔ a.toInt ≤ b.toInt := Int64.le_iff_toInt_le
theorem zl_i (a b : Int64) : a = b ↔ a.toInt = b.toInt := Int64.toInt_inj.symm
theorem zl_m : ((-9000000000 : Int64)).toInt = -9000000000 := by decide +kernel
theorem zi_t (a b : Int32) : a < b ↔ a.toInt < b.toInt := Int32.lt_iff_toInt_lt
theorem zi_e (a b : Int32) : a ≤ b ↔ a.toInt ≤ b.toInt := Int32.le_iff_toInt_le
theorem zi_i (a b : Int32) : a = b ↔ a.toInt = b.toInt := Int32.toInt_inj.symm
theorem zN_t {n : Nat} (h : n < 2 ^ 63) : (lN n).toInt = (n : Int) := by
  have h1 : uN (lN n) = n := by
    show (lN n).toBitVec.toNat = n
    exact wb_tn (by omega)
  rw [uN_int, h1, if_pos (by omega)]
theorem zN_i {a b : Nat} (ha : a < 2 ^ 63) (hb : b < 2 ^ 63) : lN a = lN b ↔ a = b := by
  rw [zl_i, zN_t ha, zN_t hb]; omega
theorem zN_l {a b : Nat} (ha : a < 2 ^ 63) (hb : b < 2 ^ 63) : lN a < lN b ↔ a < b := by
  rw [zl_t, zN_t ha, zN_t hb]; omega
theorem zN_u {n : Nat} (h : n < 2 ^ 64) : uN (lN n) = n := by
  show (lN n).toBitVec.toNat = n
  exact wb_tn h
theorem zN_shr {n k : Nat} (h : n < 2 ^ 64) (hk : k < 64) : ((lN n).toUInt64 >>> ((nI k).toInt64.toUInt64 &&& Int64.toUInt64 63)).toInt64 = lN (n / 2 ^ k) := by
  apply uN_inj
  have h1 : n / 2 ^ k ≤ n := Nat.div_le_self _ _
  rw [uN_sk _ hk, zN_u h, zN_u (by omega)]
theorem zN_shl {n : Nat} (k : Nat) (h : n * 2 ^ k < 2 ^ 64) (hk : k < 64) : lN n <<< ((nI k).toInt64 &&& 63) = lN (n * 2 ^ k) := by
  apply wb_inj
  have h1 : n ≤ n * 2 ^ k := Nat.le_mul_of_pos_right _ (Nat.two_pow_pos k)
  have h2 : (((nI k).toInt64 &&& 63).toBitVec.smod 64).toNat = k := by
    rw [wb_c k hk]
    show ((BitVec.ofNat 64 k).smod 64).toNat = k
    rw [wb_sm k hk, BitVec.toNat_ofNat, Nat.mod_eq_of_lt (by omega)]
  show (lN n).toBitVec <<< (((nI k).toInt64 &&& 63).toBitVec.smod 64).toNat = _
  rw [h2]
  apply BitVec.eq_of_toNat_eq
  rw [BitVec.toNat_shiftLeft, wb_tn (by omega), wb_tn h, Nat.shiftLeft_eq, Nat.mod_eq_of_lt h]
theorem zN_255 {n : Nat} (h : n < 2 ^ 64) : lN n &&& (255 : Int64) = lN (n % 256) := by
  apply uN_inj
  rw [uN_and, zN_u h, zN_u (by omega)]
  show n &&& 255 = n % 256
  exact Nat.and_two_pow_sub_one_eq_mod n 8
end ZNB
