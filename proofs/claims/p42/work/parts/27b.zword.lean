/-! ===== texts as values and as keys ===== -/
section ZWD
/-- v is m letters -/
def zwd : Nat → Nat → Prop
  | 0, v => v = 0
  | m + 1, v => (97 ≤ v % 256 ∧ v % 256 ≤ 122) ∧ zwd m (v / 256)
theorem zwd_lt : ∀ {m v : Nat}, zwd m v → v < 256 ^ m
  | 0, v, h => by
    have h : v = 0 := h
    subst h; decide
  | m + 1, v, h => by
    have h1 := zwd_lt h.2
    rw [Nat.pow_succ]
    omega
theorem zwd_ge : ∀ {m v : Nat}, zwd (m + 1) v → 256 ^ m ≤ v
  | 0, v, h => by
    have := h.1.1
    show 1 ≤ v
    omega
  | m + 1, v, h => by
    have h1 := zwd_ge h.2
    rw [Nat.pow_succ]
    omega
/-- v is a text -/
def zwv (v : Nat) : Prop := ∃ m, 1 ≤ m ∧ m ≤ 7 ∧ zwd m v
theorem zwp : ∀ m, m ≤ 7 → 256 ^ m ≤ 72057594037927936 := by decide
theorem zwd_56 {m v : Nat} (hm : m ≤ 7) (h : zwd m v) : v < 72057594037927936 := Nat.lt_of_lt_of_le (zwd_lt h) (zwp m hm)
theorem zwd_one {m m' v : Nat} (h : zwd m v) (h' : zwd m' v) : m = m' := by
  induction m generalizing m' v with
  | zero =>
    cases m' with
    | zero => rfl
    | succ m' =>
      have h0 : v = 0 := h
      have := h'.1.1
      omega
  | succ m ih =>
    cases m' with
    | zero =>
      have h0 : v = 0 := h'
      have := h.1.1
      omega
    | succ m' => rw [ih h.2 h'.2]
/-- the letter at place j from the left, of m -/
def zwc (m v j : Nat) : Nat := v / 256 ^ (m - 1 - j) % 256
theorem zwc_l : ∀ {m v j : Nat}, zwd m v → j < m → 97 ≤ zwc m v j ∧ zwc m v j ≤ 122
  | 0, _, j, _, hj => absurd hj (Nat.not_lt_zero _)
  | m + 1, v, j, h, hj => by
    rcases Nat.lt_or_ge j m with h1 | h1
    · have ih := zwc_l h.2 h1
      have e : zwc (m + 1) v j = zwc m (v / 256) j := by
        unfold zwc
        rw [show m + 1 - 1 - j = (m - 1 - j) + 1 from by omega, Nat.pow_succ, Nat.mul_comm, ← Nat.div_div_eq_div_mul]
      rw [e]; exact ih
    · have e : zwc (m + 1) v j = v % 256 := by
        unfold zwc
        rw [show m + 1 - 1 - j = 0 from by omega, Nat.pow_zero, Nat.div_one]
      rw [e]; exact h.1
/-- the key of a text of m letters -/
def zwk (m v : Nat) : Nat := v * 256 ^ (7 - m)
theorem zwk_56 {m v : Nat} (hm : m ≤ 7) (h : zwd m v) : zwk m v < 72057594037927936 := by
  have h1 := zwd_lt h
  unfold zwk
  calc v * 256 ^ (7 - m) < 256 ^ m * 256 ^ (7 - m) := Nat.mul_lt_mul_of_pos_right h1 (Nat.pow_pos (by decide))
    _ = 256 ^ 7 := by rw [← Nat.pow_add]; congr 1; omega
    _ = 72057594037927936 := by decide
theorem zwk_48 {m v : Nat} (h0 : 1 ≤ m) (hm : m ≤ 7) (h : zwd m v) : 281474976710656 ≤ zwk m v := by
  obtain ⟨k, rfl⟩ : ∃ k, m = k + 1 := ⟨m - 1, by omega⟩
  have h1 := zwd_ge h
  unfold zwk
  calc (281474976710656 : Nat) = 256 ^ k * 256 ^ (7 - (k + 1)) := by rw [← Nat.pow_add, show k + (7 - (k + 1)) = 6 from by omega]
    _ ≤ v * 256 ^ (7 - (k + 1)) := Nat.mul_le_mul_right _ h1
/-- digit j of the key -/
theorem zwk_d {m v j : Nat} (hm : m ≤ 7) (h : zwd m v) (hj : j < 7) : zwk m v / 256 ^ (6 - j) % 256 = if j < m then zwc m v j else 0 := by
  unfold zwk
  by_cases h1 : j < m
  · rw [if_pos h1]
    unfold zwc
    have e : 256 ^ (6 - j) = 256 ^ (m - 1 - j) * 256 ^ (7 - m) := by rw [← Nat.pow_add]; congr 1; omega
    rw [e, Nat.mul_div_mul_right _ _ (Nat.pow_pos (by decide))]
  · rw [if_neg h1]
    have e : 256 ^ (7 - m) = 256 ^ (j - m) * 256 * 256 ^ (6 - j) := by rw [← Nat.pow_succ, ← Nat.pow_add]; congr 1; omega
    rw [e, ← Nat.mul_assoc, Nat.mul_div_cancel _ (Nat.pow_pos (by decide)), ← Nat.mul_assoc, Nat.mul_mod_left]
/-- told back: the letters without the noughts behind them -/
def zt7 : Nat → Nat → Nat
  | 0, v => v
  | n + 1, v => if v % 256 = 0 then zt7 n (v / 256) else v
theorem zt7_k {m v : Nat} (h0 : 1 ≤ m) (h : zwd m v) : ∀ k, zt7 k (v * 256 ^ k) = v
  | 0 => by show v * 256 ^ 0 = v; rw [Nat.pow_zero, Nat.mul_one]
  | k + 1 => by
    show (if v * 256 ^ (k + 1) % 256 = 0 then zt7 k (v * 256 ^ (k + 1) / 256) else v * 256 ^ (k + 1)) = v
    rw [Nat.pow_succ, ← Nat.mul_assoc, if_pos (Nat.mul_mod_left _ _), Nat.mul_div_cancel _ (by decide)]
    exact zt7_k h0 h k
theorem zt7_v {m v : Nat} (h0 : 1 ≤ m) (h : zwd m v) : ∀ k, zt7 k v = v
  | 0 => rfl
  | k + 1 => by
    obtain ⟨j, rfl⟩ : ∃ j, m = j + 1 := ⟨m - 1, by omega⟩
    have := h.1.1
    exact if_neg (by omega)
theorem zt7_m {m v : Nat} (h0 : 1 ≤ m) (h : zwd m v) : ∀ j k, k ≤ j → zt7 j (v * 256 ^ k) = v
  | 0, k, hk => by
    have : k = 0 := by omega
    subst this
    exact zt7_k h0 h 0
  | j + 1, 0, _ => by rw [Nat.pow_zero, Nat.mul_one]; exact zt7_v h0 h _
  | j + 1, k + 1, hk => by
    show (if v * 256 ^ (k + 1) % 256 = 0 then zt7 j (v * 256 ^ (k + 1) / 256) else v * 256 ^ (k + 1)) = v
    rw [Nat.pow_succ, ← Nat.mul_assoc, if_pos (Nat.mul_mod_left _ _), Nat.mul_div_cancel _ (by decide)]
    exact zt7_m h0 h j k (by omega)
theorem zwk_t {m v : Nat} (h0 : 1 ≤ m) (h : zwd m v) : zt7 6 (zwk m v) = v := zt7_m h0 h 6 (7 - m) (by omega)
theorem zwk_inj {m v m' v' : Nat} (h0 : 1 ≤ m) (h : zwd m v) (h0' : 1 ≤ m') (h' : zwd m' v') (e : zwk m v = zwk m' v') : v = v' := by
  rw [← zwk_t h0 h, e, zwk_t h0' h']
/-- the first place that differs tells how keys compare -/
theorem zwk_pre {a b : Nat} : ∀ {k : Nat}, k ≤ 7 → a < 256 ^ 7 → b < 256 ^ 7 → (∀ j, j < k → a / 256 ^ (6 - j) % 256 = b / 256 ^ (6 - j) % 256) → a / 256 ^ (7 - k) = b / 256 ^ (7 - k)
  | 0, _, ha, hb, _ => by rw [Nat.div_eq_of_lt ha, Nat.div_eq_of_lt hb]
  | k + 1, hk, ha, hb, h => by
    have ih := zwk_pre (k := k) (by omega) ha hb fun j hj => h j (by omega)
    have hd := h k (by omega)
    have e : 256 ^ (7 - k) = 256 ^ (6 - k) * 256 := by rw [← Nat.pow_succ]; congr 1; omega
    rw [e, ← Nat.div_div_eq_div_mul, ← Nat.div_div_eq_div_mul] at ih
    rw [show 7 - (k + 1) = 6 - k from by omega]
    omega
theorem zwk_lt {a b k : Nat} (hk : k < 7) (ha : a < 256 ^ 7) (hb : b < 256 ^ 7) (h : ∀ j, j < k → a / 256 ^ (6 - j) % 256 = b / 256 ^ (6 - j) % 256) (hd : a / 256 ^ (6 - k) % 256 < b / 256 ^ (6 - k) % 256) : a < b := by
  have ih := zwk_pre (k := k) (by omega) ha hb h
  have e : 256 ^ (7 - k) = 256 ^ (6 - k) * 256 := by rw [← Nat.pow_succ]; congr 1; omega
  rw [e, ← Nat.div_div_eq_div_mul, ← Nat.div_div_eq_div_mul] at ih
  have h1 : a / 256 ^ (6 - k) < b / 256 ^ (6 - k) := by omega
  rcases Nat.lt_or_ge a b with h2 | h2
  · exact h2
  · have := Nat.div_le_div_right (c := 256 ^ (6 - k)) h2
    omega
end ZWD
/-! ===== keys and values ===== -/
section ZKV
/-- a key of a column of kind kd -/
def zokK (kd : Nat) (k : Int64) : Prop := k = -9000000000 ∨ (kd = 0 ∧ -1000000 ≤ k.toInt ∧ k.toInt ≤ 1000000) ∨ (kd = 1 ∧ ∃ m v, 1 ≤ m ∧ m ≤ 7 ∧ zwd m v ∧ k = lN (zwk m v))
/-- a value of a column of kind kd, that isn't missing -/
def zokV (kd : Nat) (v : Int64) : Prop := (kd = 0 ∧ -1000000 ≤ v.toInt ∧ v.toInt ≤ 1000000) ∨ (kd = 1 ∧ ∃ m w, 1 ≤ m ∧ m ≤ 7 ∧ zwd m w ∧ v = lN w)
/-- what is told of a key -/
def ztd (kd : Nat) (k : Int64) : Int64 := if kd = 1 ∧ k ≠ -9000000000 then lN (zt7 6 (uN k)) else k
theorem ztd_0 (k : Int64) : ztd 0 k = k := if_neg (fun h => absurd h.1 (by decide))
theorem ztd_m (kd : Nat) : ztd kd (-9000000000) = -9000000000 := if_neg (fun h => h.2 rfl)
theorem ztd_w {m v : Nat} (h0 : 1 ≤ m) (hm : m ≤ 7) (h : zwd m v) : ztd 1 (lN (zwk m v)) = lN v := by
  have h1 := zwk_56 hm h
  unfold ztd
  rw [if_pos, zN_u (by omega), zwk_t h0 h]
  refine ⟨rfl, fun e => ?_⟩
  have e := congrArg Int64.toInt e
  rw [zN_t (by omega), zl_m] at e
  omega
theorem zkm {m v : Nat} (hm : m ≤ 7) (h : zwd m v) : lN (zwk m v) ≠ -9000000000 := by
  have h1 := zwk_56 hm h
  intro e
  have e := congrArg Int64.toInt e
  rw [zN_t (by omega), zl_m] at e
  omega
theorem zvm {m v : Nat} (hm : m ≤ 7) (h : zwd m v) : lN v ≠ -9000000000 := by
  have h1 := zwd_56 hm h
  intro e
  have e := congrArg Int64.toInt e
  rw [zN_t (by omega), zl_m] at e
  omega
theorem ztd_V {kd : Nat} {k : Int64} (h : zokK kd k) (hn : k ≠ -9000000000) : zokV kd (ztd kd k) := by
  rcases h with h | ⟨rfl, h1, h2⟩ | ⟨rfl, m, v, h0, hm, h, rfl⟩
  · exact absurd h hn
  · rw [ztd_0]; exact Or.inl ⟨rfl, h1, h2⟩
  · rw [ztd_w h0 hm h]; exact Or.inr ⟨rfl, m, v, h0, hm, h, rfl⟩
theorem zokV_m {kd : Nat} {v : Int64} (h : zokV kd v) : v ≠ -9000000000 := by
  rcases h with ⟨rfl, h1, h2⟩ | ⟨rfl, m, w, h0, hm, h, rfl⟩
  · intro e
    rw [e, zl_m] at h1
    omega
  · exact zvm hm h
theorem ztd_mi {kd : Nat} {k : Int64} (h : zokK kd k) : ztd kd k = -9000000000 ↔ k = -9000000000 := by
  constructor
  · intro e
    rcases Classical.em (k = -9000000000) with h1 | h1
    · exact h1
    · exact absurd e (zokV_m (ztd_V h h1))
  · rintro rfl; exact ztd_m kd
theorem ztd_inj {kd : Nat} {k k' : Int64} (h : zokK kd k) (h' : zokK kd k') : ztd kd k = ztd kd k' ↔ k = k' := by
  refine ⟨fun e => ?_, fun e => by rw [e]⟩
  rcases Classical.em (k = -9000000000) with h1 | h1
  · subst h1
    rw [ztd_m] at e
    exact ((ztd_mi h').mp e.symm).symm
  · have h1' : k' ≠ -9000000000 := by
      rintro rfl
      rw [ztd_m] at e
      exact h1 ((ztd_mi h).mp e)
    rcases h with h | ⟨rfl, _, _⟩ | ⟨rfl, m, v, h0, hm, h, rfl⟩
    · exact absurd h h1
    · rw [ztd_0, ztd_0] at e; exact e
    · rcases h' with h' | ⟨hx, _, _⟩ | ⟨_, m', v', h0', hm', h', rfl⟩
      · exact absurd h' h1'
      · exact absurd hx (by decide)
      · rw [ztd_w h0 hm h, ztd_w h0' hm' h', zN_i (by have := zwd_56 hm h; omega) (by have := zwd_56 hm' h'; omega)] at e
        subst e
        rw [zwd_one h h']
/-- each value is told of one key -/
theorem zokV_k {kd : Nat} {v : Int64} (h : zokV kd v) : ∃ k, zokK kd k ∧ k ≠ -9000000000 ∧ ztd kd k = v := by
  rcases h with ⟨rfl, h1, h2⟩ | ⟨rfl, m, w, h0, hm, h, rfl⟩
  · refine ⟨v, Or.inr (Or.inl ⟨rfl, h1, h2⟩), ?_, ztd_0 v⟩
    intro e
    rw [e, zl_m] at h1
    omega
  · exact ⟨lN (zwk m w), Or.inr (Or.inr ⟨rfl, m, w, h0, hm, h, rfl⟩), zkm hm h, ztd_w h0 hm h⟩
theorem zokK_ge {kd : Nat} {k : Int64} (h : zokK kd k) (hn : k ≠ -9000000000) : -1000000 ≤ k.toInt ∧ k.toInt < 72057594037927936 := by
  rcases h with h | ⟨rfl, h1, h2⟩ | ⟨rfl, m, v, h0, hm, h, rfl⟩
  · exact absurd h hn
  · omega
  · have := zwk_56 hm h
    rw [zN_t (by omega)]
    omega
theorem zf_keyOf20 {m v : Nat} (h0 : 1 ≤ m) (hm : m ≤ 7) (hw : zwd m v) (h : zx_H) : ∀ n j, j + m ≤ 7 → 7 - j - m < n → f_ColumnVault_keyOf_20 n (lN (v * 256 ^ j)) (nI (j + 1)) h = some (lN (zwk m v), h) := by
  intro n
  induction n with
  | zero => intro j _ hn; exact absurd hn (Nat.not_lt_zero _)
  | succ n ih =>
    intro j hj hn
    have h1 := zwd_lt hw
    have h2 : v * 256 ^ j < 256 ^ (m + j) := by
      rw [Nat.pow_add]
      exact Nat.mul_lt_mul_of_pos_right h1 (Nat.pow_pos (by decide))
    have h3 : 256 ^ (m + j) ≤ 72057594037927936 := zwp (m + j) (by omega)
    unfold f_ColumnVault_keyOf_20
    have hs : ((lN (v * 256 ^ j)).toUInt64 >>> (((48 : Int32)).toInt64.toUInt64 &&& Int64.toUInt64 63)).toInt64 = lN (v * 256 ^ j / 2 ^ 48) := zN_shr (k := 48) (by omega) (by decide)
    rcases Nat.lt_or_ge j (7 - m) with h4 | h4
    · have h5 : 256 ^ (m + j) ≤ 281474976710656 := by
        calc 256 ^ (m + j) ≤ 256 ^ 6 := Nat.pow_le_pow_right (by decide) (by omega)
          _ = 281474976710656 := by decide
      have h6 : v * 256 ^ j / 2 ^ 48 = 0 := Nat.div_eq_of_lt (by omega)
      rw [if_neg (show ¬ (7 : Int32) ≤ nI (j + 1) from nI_ge (b := 7) (by omega) (by decide)), hs, h6, if_neg (fun x => x rfl)]
      have e : lN (v * 256 ^ j) <<< (((8 : Int32)).toInt64 &&& 63) = lN (v * 256 ^ (j + 1)) := by
        have e1 := zN_shl (n := v * 256 ^ j) 8 (by omega) (by decide)
        rw [Nat.pow_succ, ← Nat.mul_assoc]
        exact e1
      rw [e, nI_1]
      exact ih (j + 1) (by omega) (by omega)
    · have e : j = 7 - m := by omega
      subst e
      have hz : (if (7 : Int32) ≤ nI (7 - m + 1) then some (lN (v * 256 ^ (7 - m)), h) else if ¬ lN (v * 256 ^ (7 - m) / 2 ^ 48) = 0 then some (lN (v * 256 ^ (7 - m)), h) else f_ColumnVault_keyOf_20 n (lN (v * 256 ^ (7 - m)) <<< (((8 : Int32)).toInt64 &&& 63)) (nI (7 - m + 1) + 1) h) = some (lN (zwk m v), h) := by
        by_cases hc : (7 : Int32) ≤ nI (7 - m + 1)
        · rw [if_pos hc]; rfl
        · rw [if_neg hc, if_pos]
          · rfl
          · have h7 := zwk_48 h0 hm hw
            have h8 := zwk_56 hm hw
            have h9 : 1 ≤ v * 256 ^ (7 - m) / 2 ^ 48 := (Nat.le_div_iff_mul_le (by decide)).mpr (by show 1 * 2 ^ 48 ≤ zwk m v; omega)
            have h10 : v * 256 ^ (7 - m) / 2 ^ 48 < 2 ^ 63 := Nat.lt_of_le_of_lt (Nat.div_le_self _ _) (by show zwk m v < _; omega)
            intro e
            have e : lN (v * 256 ^ (7 - m) / 2 ^ 48) = lN 0 := e
            rw [zN_i h10 (by decide)] at e
            omega
      rw [hs]
      exact hz
theorem zf_keyOf {kd : Nat} {k : Int64} (hk : zokK kd k) (hd : kd ≤ 1) (h : zx_H) : f_ColumnVault_keyOf (nI kd) (ztd kd k) h = some (k, h) := by
  unfold f_ColumnVault_keyOf
  rcases Classical.em (k = -9000000000) with h1 | h1
  · subst h1
    rw [ztd_m]
    by_cases hc : ¬ nI kd = (1 : Int32)
    · rw [if_pos hc]
    · rw [if_neg hc, if_neg (fun x => x rfl)]
  · rcases hk with hk | ⟨rfl, _, _⟩ | ⟨rfl, m, v, h0, hm, hw, rfl⟩
    · exact absurd hk h1
    · rw [if_pos (by decide), ztd_0]
    · rw [if_neg (by decide), ztd_w h0 hm hw, if_pos (zvm hm hw)]
      have e := zf_keyOf20 h0 hm hw h zF 0 (by omega) (by unfold zF; omega)
      rw [Nat.pow_zero, Nat.mul_one] at e
      exact e
theorem zf_toldOf20 (h : zx_H) : ∀ n j v, j ≤ 6 → 6 - j < n → v < 2 ^ 63 → f_ColumnVault_toldOf_20 n (lN v) (nI (j + 1)) h = some (lN (zt7 (6 - j) v), h) := by
  intro n
  induction n with
  | zero => intro j v _ hn; exact absurd hn (Nat.not_lt_zero _)
  | succ n ih =>
    intro j v hj hn hv
    unfold f_ColumnVault_toldOf_20
    rcases Nat.lt_or_ge j 6 with h1 | h1
    · rw [if_neg (show ¬ (7 : Int32) ≤ nI (j + 1) from nI_ge (b := 7) (by omega) (by decide)), zN_255 (by omega)]
      have hs : ((lN v).toUInt64 >>> (((8 : Int32)).toInt64.toUInt64 &&& Int64.toUInt64 63)).toInt64 = lN (v / 2 ^ 8) := zN_shr (k := 8) (by omega) (by decide)
      have e : zt7 (6 - j) v = if v % 256 = 0 then zt7 (6 - (j + 1)) (v / 256) else v := by
        rw [show 6 - j = (6 - (j + 1)) + 1 from by omega]; rfl
      rw [e, hs]
      have hz : lN (v % 256) = 0 ↔ v % 256 = 0 := zN_i (b := 0) (by omega) (by decide)
      by_cases hc : v % 256 = 0
      · rw [if_pos hc, if_neg (fun x => x (hz.mpr hc)), nI_1]
        exact ih (j + 1) (v / 256) (by omega) (by omega) (by omega)
      · rw [if_neg hc, if_pos (fun x => hc (hz.mp x))]
    · have e : j = 6 := by omega
      subst e
      rw [if_pos (by decide)]
      rfl
theorem zf_toldOf {kd : Nat} {k : Int64} (hk : zokK kd k) (hd : kd ≤ 1) (h : zx_H) : f_ColumnVault_toldOf (nI kd) k h = some (ztd kd k, h) := by
  unfold f_ColumnVault_toldOf
  rcases Classical.em (k = -9000000000) with h1 | h1
  · subst h1
    rw [ztd_m]
    by_cases hc : ¬ nI kd = (1 : Int32)
    · rw [if_pos hc]
    · rw [if_neg hc, if_neg (fun x => x rfl)]
  · rcases hk with hk | ⟨rfl, _, _⟩ | ⟨rfl, m, v, h0, hm, hw, rfl⟩
    · exact absurd hk h1
    · rw [if_pos (by decide), ztd_0]
    · have h2 := zwk_56 hm hw
      rw [if_neg (by decide), if_pos h1, ztd_w h0 hm hw]
      have e := zf_toldOf20 h zF 0 (zwk m v) (by omega) (by unfold zF; omega) (by omega)
      rw [Nat.sub_zero, zwk_t h0 hw] at e
      exact e
end ZKV
