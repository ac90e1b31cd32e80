/-! ===== what the steps over names mean ===== -/
theorem zs_ci : ∀ k, k < 64 → zy_c (Int32.ofNat (zy_b + k)) = some k := by decide +kernel
theorem zs_cl : ∀ k, k < 1024 → zy_cL (Int64.ofNat (zy_bL + k)) = some k := by decide +kernel
theorem zs_w255 (z : Int64) : (z &&& 255).toInt32.toInt64 = z &&& 255 := by
  have h1 : (z &&& 255).toBitVec.toNat ≤ 255 := by
    rw [Int64.toBitVec_and, BitVec.toNat_and]
    exact Nat.and_le_right
  have h2 : (z &&& 255).toInt = (z &&& 255).toBitVec.toNat := by
    show (z &&& 255).toBitVec.toInt = _
    rw [BitVec.toInt_eq_toNat_of_lt (by omega)]
  apply Int64.toInt_inj.mp
  rw [Int32.toInt_toInt64, Int64.toInt_toInt32, h2]
  rw [Int.bmod_eq_of_le (by omega) (by omega)]
theorem zs_shr8 (T : Int64) : ∀ j, j < 8 → (T >>> ((Int32.ofNat (8 * j)).toInt64 &&& 63)) &&& 255 = ((T.toUInt64 >>> ((Int32.ofNat (8 * j)).toInt64.toUInt64 &&& Int64.toUInt64 63)).toInt64 &&& 255) := by
  have key : ∀ (c : Nat), c + 8 ≤ 64 → (T.toBitVec.sshiftRight c) &&& 255#64 = (T.toBitVec >>> c) &&& 255#64 := by
    intro c hc
    apply BitVec.eq_of_getLsbD_eq
    intro i hi
    rw [BitVec.getLsbD_and, BitVec.getLsbD_and]
    by_cases h8 : i < 8
    · rw [BitVec.getLsbD_sshiftRight, BitVec.getLsbD_ushiftRight]
      have h1 : ¬ (64 ≤ i) := by omega
      simp [h1, show c + i < 64 by omega]
    · have h9 : (255#64).getLsbD i = false := by
        rw [BitVec.getLsbD_ofNat, Nat.testBit_lt_two_pow (Nat.lt_of_lt_of_le (by decide : 255 < 2 ^ 8) (Nat.pow_le_pow_right (by decide) (by omega))), Bool.and_false]
      rw [h9]; simp
  intro j hj
  have h := key (8 * j) (by omega)
  match j, hj, h with
  | 0, _, h => exact congrArg (fun z => Int64.ofBitVec z) h
  | 1, _, h => exact congrArg (fun z => Int64.ofBitVec z) h
  | 2, _, h => exact congrArg (fun z => Int64.ofBitVec z) h
  | 3, _, h => exact congrArg (fun z => Int64.ofBitVec z) h
  | 4, _, h => exact congrArg (fun z => Int64.ofBitVec z) h
  | 5, _, h => exact congrArg (fun z => Int64.ofBitVec z) h
  | 6, _, h => exact congrArg (fun z => Int64.ofBitVec z) h
  | 7, _, h => exact congrArg (fun z => Int64.ofBitVec z) h
section ZYSO
variable {len : Nat} {s : Nat → Int32}
theorem zs_zi {k : Nat} (h : k < 64) : zs_v len s (zy_i k) = .int (zy_d len s k) := by
  show Value.int (zs_i len s (Int32.ofNat (zy_b + k))) = _
  rw [zs_i_c (zs_ci k h)]
theorem zs_zl {k : Nat} (h : k < 1024) : zs_v len s (zy_l k) = .long (zy_dL len s k) := by
  show Value.long (zs_l len s (Int64.ofNat (zy_bL + k))) = _
  rw [zs_l_c (zs_cl k h)]
theorem zs_iv {bx : zy_B} (hB : zs_B len s bx) {k : Nat} (hk : k < 64) : (zy_iv k bx).1 ≤ (zy_d len s k).toInt ∧ (zy_d len s k).toInt ≤ (zy_iv k bx).2 := by
  induction bx with
  | nil =>
    have h1 := Int32.le_toInt (zy_d len s k)
    have h2 := Int32.toInt_lt (zy_d len s k)
    simp only [zy_iv]
    omega
  | cons e r ih =>
    obtain ⟨j, u, v⟩ := e
    simp only [zy_iv]
    split
    · next hj =>
      subst hj
      have h9 := hB _ List.mem_cons_self
      rw [if_pos hk] at h9
      exact h9
    · exact ih (fun e he => hB e (List.mem_cons_of_mem _ he))
theorem zs_ne {bx : zy_B} (hB : zs_B len s bx) {k : Nat} {y : Int} (h : zy_ne k y bx = true) : (zy_d len s k).toInt ≠ y := by
  unfold zy_ne at h
  obtain ⟨e, he, h9⟩ := List.any_eq_true.mp h
  simp only [Bool.and_eq_true, decide_eq_true_eq] at h9
  have h1 := Nat.eq_of_beq_eq_true h9.1
  have h2 := hB e he
  rw [if_neg (by omega), h1, Nat.add_sub_cancel_left, h9.2] at h2
  exact h2
theorem zs_bad {bx : zy_B} (hB : zs_B len s bx) {k : Nat} (hk : k < 64) (h : zy_bad k bx = true) : False := by
  unfold zy_bad at h
  simp only [Bool.and_eq_true, decide_eq_true_eq] at h
  have h1 := zs_iv hB hk
  have h2 := zs_ne hB h.2
  omega
theorem zs_of_toInt {x : Int32} {u : Int} (h : x.toInt = u) : x = Int32.ofInt u := by rw [← h, Int32.ofInt_toInt]
theorem zs_n1 {bx : zy_B} (hB : zs_B len s bx) (v : Value) : zs_v len s (zy_n1 bx v) = zs_v len s v := by
  unfold zy_n1
  split
  · next x =>
    split
    · next k hk =>
      dsimp only
      split
      · next hc =>
        have h1 := zs_iv hB (zs_c_lt hk)
        simp only [zs_v, zs_i_n hc.2, zs_i_c hk]
        rw [zs_of_toInt (x := zy_d len s k) (u := (zy_iv k bx).1) (by omega)]
      · rfl
    · rfl
  · next x =>
    split
    · next k hk =>
      split
      · next h64 =>
        dsimp only
        split
        · next hc =>
          have h1 := zs_iv hB h64
          simp only [zs_v, zs_l_n hc.2, zs_l_c hk]
          have h2 : (zy_d len s k).toInt = (zy_iv k bx).1 := by omega
          unfold zy_dL
          rw [if_pos h64, ← h2]
          congr 1
        · rfl
      · rfl
    · rfl
  · rfl
theorem zs_nm {bx : zy_B} (hB : zs_B len s bx) (st : List Value) : zs_st len s (zy_nm bx st) = zs_st len s st := by
  unfold zy_nm
  split <;> simp only [zs_st, List.map_cons, List.map_nil, zs_n1 hB]
theorem zs_split {bx : zy_B} (hB : zs_B len s bx) {c : Nat} (hc : c < 64) (b : Bool) (m : Int) : zs_B len s (zy_b1 c b m bx) ∨ zs_B len s (zy_b2 c b m bx) := by
  have hcons : ∀ e : Nat × Int × Int, (if e.1 < 64 then e.2.1 ≤ (zy_d len s e.1).toInt ∧ (zy_d len s e.1).toInt ≤ e.2.2 else (zy_d len s (e.1 - 64)).toInt ≠ e.2.1) → zs_B len s (e :: bx) := fun e he z hz => by
    rcases List.mem_cons.mp hz with h | h
    · rw [h]; exact he
    · exact hB z h
  have h1 := zs_iv hB hc
  cases b with
  | true =>
    rcases Int.lt_trichotomy (zy_d len s c).toInt m with h | h | h
    · exact Or.inr (hcons (64 + c, m, m) (by rw [if_neg (by dsimp only; omega)]; rw [show 64 + c - 64 = c by omega]; dsimp only; omega))
    · exact Or.inl (hcons (c, m, m) (by rw [if_pos hc]; dsimp only; omega))
    · exact Or.inr (hcons (64 + c, m, m) (by rw [if_neg (by dsimp only; omega)]; rw [show 64 + c - 64 = c by omega]; dsimp only; omega))
  | false =>
    by_cases h : m < (zy_d len s c).toInt
    · exact Or.inr (hcons (c, m + 1, (zy_iv c bx).2) (by rw [if_pos hc]; dsimp only; omega))
    · exact Or.inl (hcons (c, (zy_iv c bx).1, m) (by rw [if_pos hc]; dsimp only; omega))
end ZYSO
