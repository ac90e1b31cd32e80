/-! ===== the law comes to its end with 1 ===== -/
section ZLAW
variable {len : Nat} {s : Nat → Int32}
theorem zs_sz (h : zx_H) : zx_sz (zs_h len s h) = zx_sz h := by
  unfold zx_sz
  rw [List.map_map]
  congr 1
  apply List.map_congr_left
  intro e _
  rcases e with ⟨t, n, c | c | c | c | c⟩ | ⟨c, fs⟩ <;> rfl
def zy_done (len : Nat) (s : Nat → Int32) (nf : Bool) : Prop := ∃ h', zx_run ((len, s), nf) 20000 40 0 (0, [(0, .ref zx_lim)], []) [] = some (.inl (some (.int 1)), h') ∧ h'.length ≤ 2000 ∧ zx_sz h' ≤ 200000
theorem zy_arm_ok {nf nf' sb : Bool} {bx : zy_B} (hlen : len ≤ 7) (hnf : nf = nf' ∨ sb = true) (h : zy_arm nf sb bx = true) (hB : zs_B len s bx) : zy_done len s nf' := by
  unfold zy_arm zy_ok at h
  split at h
  · next l hl =>
    obtain ⟨r, hr, -, hrun⟩ := zy_snd hlen nf nf' sb hnf _ _ _ _ _ _ _ hl hB
    have h1 := List.all_eq_true.mp h r hr
    obtain ⟨bx', o, h'⟩ := r
    have h2 : ∃ x, o = .inl (some (.int x)) ∧ (x = 1 ∧ h'.length ≤ 2000 ∧ zx_sz h' ≤ 200000) := by
      rcases o with v | E
      · rcases v with _ | v
        · cases h1
        · cases v <;> first | (refine ⟨_, rfl, ?_⟩; simpa using h1) | cases h1
      · cases h1
    obtain ⟨x, rfl, rfl, h3, h4⟩ := h2
    have h5 : zs_i len s 1 = 1 := zs_i_n (by decide)
    have h6 : zs_o len s (.inl (some (.int 1))) = .inl (some (.int 1)) := by
      show (Sum.inl (some (Value.int (zs_i len s 1))) : zx_O) = _
      rw [h5]
    rw [h6] at hrun
    exact ⟨zs_h len s h', hrun, by rw [zs_hlen]; exact h3, by rw [zs_sz]; exact h4⟩
  · cases h
theorem zs_Bc {bx : zy_B} {k : Nat} {lo hi : Int} (hk : k < 64) (h1 : lo ≤ (zy_d len s k).toInt) (h2 : (zy_d len s k).toInt ≤ hi) (hB : zs_B len s bx) : zs_B len s ((k, lo, hi) :: bx) := by
  intro e he
  rcases List.mem_cons.mp he with rfl | he
  · rw [if_pos hk]; exact ⟨h1, h2⟩
  · exact hB e he
theorem zs_Bn : zs_B len s [] := fun e he => nomatch he
theorem zs_rng (x : Int32) : -2147483648 ≤ x.toInt ∧ x.toInt ≤ 2147483647 := by
  have h1 := x.le_toInt
  have h2 := x.toInt_lt
  omega
theorem zs_d7 : 0 ≤ (zy_d len s 7).toInt ∧ (zy_d len s 7).toInt ≤ 63 := by
  have h0 : zy_d len s 7 = s 0 &&& 63 := rfl
  have h1 : (s 0 &&& 63).toBitVec.toNat ≤ 63 := by
    rw [Int32.toBitVec_and, BitVec.toNat_and]
    exact Nat.and_le_right
  have h2 : (s 0 &&& 63).toInt = (s 0 &&& 63).toBitVec.toNat := by
    show (s 0 &&& 63).toBitVec.toInt = _
    rw [BitVec.toInt_eq_toNat_of_lt (by omega)]
  rw [h0]
  omega
theorem zs_dby (k : Nat) (hk : k < 8) : 0 ≤ (zy_d len s (20 + k)).toInt ∧ (zy_d len s (20 + k)).toInt ≤ 255 := by
  have h0 : zy_d len s (20 + k) = (zy_by s k).toInt32 := by
    unfold zy_d
    rw [if_neg (by omega), if_neg (by omega), if_neg (by omega), if_neg (by omega), if_neg (by omega), if_neg (by omega), if_neg (by omega), if_pos (by omega), show 20 + k - 20 = k by omega]
  have hz : ∀ z : Int64, 0 ≤ (z &&& 255).toInt32.toInt ∧ (z &&& 255).toInt32.toInt ≤ 255 := by
    intro z
    have h1 : (z &&& 255).toBitVec.toNat ≤ 255 := by
      rw [Int64.toBitVec_and, BitVec.toNat_and]
      exact Nat.and_le_right
    have h2 : (z &&& 255).toInt = (z &&& 255).toBitVec.toNat := by
      show (z &&& 255).toBitVec.toInt = _
      rw [BitVec.toInt_eq_toNat_of_lt (by omega)]
    rw [Int64.toInt_toInt32, h2, Int.bmod_eq_of_le (by omega) (by omega)]
    omega
  rw [h0]
  exact hz _
theorem zy_20 (nf : Bool) (h9 : (zy_d 7 s 9).toInt = 0) (h7 : (zy_d 7 s 7).toInt = 20) : zy_done 7 s nf := by
  have hb0 : 0 ≤ (zy_d 7 s 20).toInt ∧ (zy_d 7 s 20).toInt ≤ 255 := zs_dby (len := 7) (s := s) 0 (by decide)
  have hb1 : 0 ≤ (zy_d 7 s 21).toInt ∧ (zy_d 7 s 21).toInt ≤ 255 := zs_dby (len := 7) (s := s) 1 (by decide)
  have hb2 : 0 ≤ (zy_d 7 s 22).toInt ∧ (zy_d 7 s 22).toInt ≤ 255 := zs_dby (len := 7) (s := s) 2 (by decide)
  have hb3 : 0 ≤ (zy_d 7 s 23).toInt ∧ (zy_d 7 s 23).toInt ≤ 255 := zs_dby (len := 7) (s := s) 3 (by decide)
  have hb4 : 0 ≤ (zy_d 7 s 24).toInt ∧ (zy_d 7 s 24).toInt ≤ 255 := zs_dby (len := 7) (s := s) 4 (by decide)
  have hb5 : 0 ≤ (zy_d 7 s 25).toInt ∧ (zy_d 7 s 25).toInt ≤ 255 := zs_dby (len := 7) (s := s) 5 (by decide)
  have hb6 : 0 ≤ (zy_d 7 s 26).toInt ∧ (zy_d 7 s 26).toInt ≤ 255 := zs_dby (len := 7) (s := s) 6 (by decide)
  have hb7 : 0 ≤ (zy_d 7 s 27).toInt ∧ (zy_d 7 s 27).toInt ≤ 255 := zs_dby (len := 7) (s := s) 7 (by decide)
  by_cases g0 : (zy_d 7 s 20).toInt = 0
  · by_cases g1 : (zy_d 7 s 21).toInt = 0
    · by_cases g2 : (zy_d 7 s 22).toInt = 0
      · by_cases g3 : (zy_d 7 s 23).toInt = 0
        · by_cases g4 : (zy_d 7 s 24).toInt = 0
          · exact zy_arm_ok (Nat.le_refl 7) (Or.inr rfl) zb_20_00000 (zs_Bc (k := 9) (by decide) (by omega) (by omega) (zs_Bc (k := 7) (by decide) (by omega) (by omega) (zs_Bc (k := 20) (by decide) (by omega) (by omega) (zs_Bc (k := 21) (by decide) (by omega) (by omega) (zs_Bc (k := 22) (by decide) (by omega) (by omega) (zs_Bc (k := 23) (by decide) (by omega) (by omega) (zs_Bc (k := 24) (by decide) (by omega) (by omega) (zs_Bc (k := 25) (by decide) hb5.1 hb5.2 (zs_Bc (k := 26) (by decide) hb6.1 hb6.2 (zs_Bc (k := 27) (by decide) hb7.1 hb7.2 zs_Bn))))))))))
          · exact zy_arm_ok (Nat.le_refl 7) (Or.inr rfl) zb_20_00001 (zs_Bc (k := 9) (by decide) (by omega) (by omega) (zs_Bc (k := 7) (by decide) (by omega) (by omega) (zs_Bc (k := 20) (by decide) (by omega) (by omega) (zs_Bc (k := 21) (by decide) (by omega) (by omega) (zs_Bc (k := 22) (by decide) (by omega) (by omega) (zs_Bc (k := 23) (by decide) (by omega) (by omega) (zs_Bc (k := 24) (by decide) (by omega) (by omega) (zs_Bc (k := 25) (by decide) hb5.1 hb5.2 (zs_Bc (k := 26) (by decide) hb6.1 hb6.2 (zs_Bc (k := 27) (by decide) hb7.1 hb7.2 zs_Bn))))))))))
        · by_cases g4 : (zy_d 7 s 24).toInt = 0
          · exact zy_arm_ok (Nat.le_refl 7) (Or.inr rfl) zb_20_00010 (zs_Bc (k := 9) (by decide) (by omega) (by omega) (zs_Bc (k := 7) (by decide) (by omega) (by omega) (zs_Bc (k := 20) (by decide) (by omega) (by omega) (zs_Bc (k := 21) (by decide) (by omega) (by omega) (zs_Bc (k := 22) (by decide) (by omega) (by omega) (zs_Bc (k := 23) (by decide) (by omega) (by omega) (zs_Bc (k := 24) (by decide) (by omega) (by omega) (zs_Bc (k := 25) (by decide) hb5.1 hb5.2 (zs_Bc (k := 26) (by decide) hb6.1 hb6.2 (zs_Bc (k := 27) (by decide) hb7.1 hb7.2 zs_Bn))))))))))
          · exact zy_arm_ok (Nat.le_refl 7) (Or.inr rfl) zb_20_00011 (zs_Bc (k := 9) (by decide) (by omega) (by omega) (zs_Bc (k := 7) (by decide) (by omega) (by omega) (zs_Bc (k := 20) (by decide) (by omega) (by omega) (zs_Bc (k := 21) (by decide) (by omega) (by omega) (zs_Bc (k := 22) (by decide) (by omega) (by omega) (zs_Bc (k := 23) (by decide) (by omega) (by omega) (zs_Bc (k := 24) (by decide) (by omega) (by omega) (zs_Bc (k := 25) (by decide) hb5.1 hb5.2 (zs_Bc (k := 26) (by decide) hb6.1 hb6.2 (zs_Bc (k := 27) (by decide) hb7.1 hb7.2 zs_Bn))))))))))
      · by_cases g3 : (zy_d 7 s 23).toInt = 0
        · by_cases g4 : (zy_d 7 s 24).toInt = 0
          · exact zy_arm_ok (Nat.le_refl 7) (Or.inr rfl) zb_20_00100 (zs_Bc (k := 9) (by decide) (by omega) (by omega) (zs_Bc (k := 7) (by decide) (by omega) (by omega) (zs_Bc (k := 20) (by decide) (by omega) (by omega) (zs_Bc (k := 21) (by decide) (by omega) (by omega) (zs_Bc (k := 22) (by decide) (by omega) (by omega) (zs_Bc (k := 23) (by decide) (by omega) (by omega) (zs_Bc (k := 24) (by decide) (by omega) (by omega) (zs_Bc (k := 25) (by decide) hb5.1 hb5.2 (zs_Bc (k := 26) (by decide) hb6.1 hb6.2 (zs_Bc (k := 27) (by decide) hb7.1 hb7.2 zs_Bn))))))))))
          · exact zy_arm_ok (Nat.le_refl 7) (Or.inr rfl) zb_20_00101 (zs_Bc (k := 9) (by decide) (by omega) (by omega) (zs_Bc (k := 7) (by decide) (by omega) (by omega) (zs_Bc (k := 20) (by decide) (by omega) (by omega) (zs_Bc (k := 21) (by decide) (by omega) (by omega) (zs_Bc (k := 22) (by decide) (by omega) (by omega) (zs_Bc (k := 23) (by decide) (by omega) (by omega) (zs_Bc (k := 24) (by decide) (by omega) (by omega) (zs_Bc (k := 25) (by decide) hb5.1 hb5.2 (zs_Bc (k := 26) (by decide) hb6.1 hb6.2 (zs_Bc (k := 27) (by decide) hb7.1 hb7.2 zs_Bn))))))))))
        · by_cases g4 : (zy_d 7 s 24).toInt = 0
          · exact zy_arm_ok (Nat.le_refl 7) (Or.inr rfl) zb_20_00110 (zs_Bc (k := 9) (by decide) (by omega) (by omega) (zs_Bc (k := 7) (by decide) (by omega) (by omega) (zs_Bc (k := 20) (by decide) (by omega) (by omega) (zs_Bc (k := 21) (by decide) (by omega) (by omega) (zs_Bc (k := 22) (by decide) (by omega) (by omega) (zs_Bc (k := 23) (by decide) (by omega) (by omega) (zs_Bc (k := 24) (by decide) (by omega) (by omega) (zs_Bc (k := 25) (by decide) hb5.1 hb5.2 (zs_Bc (k := 26) (by decide) hb6.1 hb6.2 (zs_Bc (k := 27) (by decide) hb7.1 hb7.2 zs_Bn))))))))))
          · exact zy_arm_ok (Nat.le_refl 7) (Or.inr rfl) zb_20_00111 (zs_Bc (k := 9) (by decide) (by omega) (by omega) (zs_Bc (k := 7) (by decide) (by omega) (by omega) (zs_Bc (k := 20) (by decide) (by omega) (by omega) (zs_Bc (k := 21) (by decide) (by omega) (by omega) (zs_Bc (k := 22) (by decide) (by omega) (by omega) (zs_Bc (k := 23) (by decide) (by omega) (by omega) (zs_Bc (k := 24) (by decide) (by omega) (by omega) (zs_Bc (k := 25) (by decide) hb5.1 hb5.2 (zs_Bc (k := 26) (by decide) hb6.1 hb6.2 (zs_Bc (k := 27) (by decide) hb7.1 hb7.2 zs_Bn))))))))))
    · by_cases g2 : (zy_d 7 s 22).toInt = 0
      · by_cases g3 : (zy_d 7 s 23).toInt = 0
        · by_cases g4 : (zy_d 7 s 24).toInt = 0
          · exact zy_arm_ok (Nat.le_refl 7) (Or.inr rfl) zb_20_01000 (zs_Bc (k := 9) (by decide) (by omega) (by omega) (zs_Bc (k := 7) (by decide) (by omega) (by omega) (zs_Bc (k := 20) (by decide) (by omega) (by omega) (zs_Bc (k := 21) (by decide) (by omega) (by omega) (zs_Bc (k := 22) (by decide) (by omega) (by omega) (zs_Bc (k := 23) (by decide) (by omega) (by omega) (zs_Bc (k := 24) (by decide) (by omega) (by omega) (zs_Bc (k := 25) (by decide) hb5.1 hb5.2 (zs_Bc (k := 26) (by decide) hb6.1 hb6.2 (zs_Bc (k := 27) (by decide) hb7.1 hb7.2 zs_Bn))))))))))
          · exact zy_arm_ok (Nat.le_refl 7) (Or.inr rfl) zb_20_01001 (zs_Bc (k := 9) (by decide) (by omega) (by omega) (zs_Bc (k := 7) (by decide) (by omega) (by omega) (zs_Bc (k := 20) (by decide) (by omega) (by omega) (zs_Bc (k := 21) (by decide) (by omega) (by omega) (zs_Bc (k := 22) (by decide) (by omega) (by omega) (zs_Bc (k := 23) (by decide) (by omega) (by omega) (zs_Bc (k := 24) (by decide) (by omega) (by omega) (zs_Bc (k := 25) (by decide) hb5.1 hb5.2 (zs_Bc (k := 26) (by decide) hb6.1 hb6.2 (zs_Bc (k := 27) (by decide) hb7.1 hb7.2 zs_Bn))))))))))
        · by_cases g4 : (zy_d 7 s 24).toInt = 0
          · exact zy_arm_ok (Nat.le_refl 7) (Or.inr rfl) zb_20_01010 (zs_Bc (k := 9) (by decide) (by omega) (by omega) (zs_Bc (k := 7) (by decide) (by omega) (by omega) (zs_Bc (k := 20) (by decide) (by omega) (by omega) (zs_Bc (k := 21) (by decide) (by omega) (by omega) (zs_Bc (k := 22) (by decide) (by omega) (by omega) (zs_Bc (k := 23) (by decide) (by omega) (by omega) (zs_Bc (k := 24) (by decide) (by omega) (by omega) (zs_Bc (k := 25) (by decide) hb5.1 hb5.2 (zs_Bc (k := 26) (by decide) hb6.1 hb6.2 (zs_Bc (k := 27) (by decide) hb7.1 hb7.2 zs_Bn))))))))))
          · exact zy_arm_ok (Nat.le_refl 7) (Or.inr rfl) zb_20_01011 (zs_Bc (k := 9) (by decide) (by omega) (by omega) (zs_Bc (k := 7) (by decide) (by omega) (by omega) (zs_Bc (k := 20) (by decide) (by omega) (by omega) (zs_Bc (k := 21) (by decide) (by omega) (by omega) (zs_Bc (k := 22) (by decide) (by omega) (by omega) (zs_Bc (k := 23) (by decide) (by omega) (by omega) (zs_Bc (k := 24) (by decide) (by omega) (by omega) (zs_Bc (k := 25) (by decide) hb5.1 hb5.2 (zs_Bc (k := 26) (by decide) hb6.1 hb6.2 (zs_Bc (k := 27) (by decide) hb7.1 hb7.2 zs_Bn))))))))))
      · by_cases g3 : (zy_d 7 s 23).toInt = 0
        · by_cases g4 : (zy_d 7 s 24).toInt = 0
          · exact zy_arm_ok (Nat.le_refl 7) (Or.inr rfl) zb_20_01100 (zs_Bc (k := 9) (by decide) (by omega) (by omega) (zs_Bc (k := 7) (by decide) (by omega) (by omega) (zs_Bc (k := 20) (by decide) (by omega) (by omega) (zs_Bc (k := 21) (by decide) (by omega) (by omega) (zs_Bc (k := 22) (by decide) (by omega) (by omega) (zs_Bc (k := 23) (by decide) (by omega) (by omega) (zs_Bc (k := 24) (by decide) (by omega) (by omega) (zs_Bc (k := 25) (by decide) hb5.1 hb5.2 (zs_Bc (k := 26) (by decide) hb6.1 hb6.2 (zs_Bc (k := 27) (by decide) hb7.1 hb7.2 zs_Bn))))))))))
          · exact zy_arm_ok (Nat.le_refl 7) (Or.inr rfl) zb_20_01101 (zs_Bc (k := 9) (by decide) (by omega) (by omega) (zs_Bc (k := 7) (by decide) (by omega) (by omega) (zs_Bc (k := 20) (by decide) (by omega) (by omega) (zs_Bc (k := 21) (by decide) (by omega) (by omega) (zs_Bc (k := 22) (by decide) (by omega) (by omega) (zs_Bc (k := 23) (by decide) (by omega) (by omega) (zs_Bc (k := 24) (by decide) (by omega) (by omega) (zs_Bc (k := 25) (by decide) hb5.1 hb5.2 (zs_Bc (k := 26) (by decide) hb6.1 hb6.2 (zs_Bc (k := 27) (by decide) hb7.1 hb7.2 zs_Bn))))))))))
        · by_cases g4 : (zy_d 7 s 24).toInt = 0
          · exact zy_arm_ok (Nat.le_refl 7) (Or.inr rfl) zb_20_01110 (zs_Bc (k := 9) (by decide) (by omega) (by omega) (zs_Bc (k := 7) (by decide) (by omega) (by omega) (zs_Bc (k := 20) (by decide) (by omega) (by omega) (zs_Bc (k := 21) (by decide) (by omega) (by omega) (zs_Bc (k := 22) (by decide) (by omega) (by omega) (zs_Bc (k := 23) (by decide) (by omega) (by omega) (zs_Bc (k := 24) (by decide) (by omega) (by omega) (zs_Bc (k := 25) (by decide) hb5.1 hb5.2 (zs_Bc (k := 26) (by decide) hb6.1 hb6.2 (zs_Bc (k := 27) (by decide) hb7.1 hb7.2 zs_Bn))))))))))
          · exact zy_arm_ok (Nat.le_refl 7) (Or.inr rfl) zb_20_01111 (zs_Bc (k := 9) (by decide) (by omega) (by omega) (zs_Bc (k := 7) (by decide) (by omega) (by omega) (zs_Bc (k := 20) (by decide) (by omega) (by omega) (zs_Bc (k := 21) (by decide) (by omega) (by omega) (zs_Bc (k := 22) (by decide) (by omega) (by omega) (zs_Bc (k := 23) (by decide) (by omega) (by omega) (zs_Bc (k := 24) (by decide) (by omega) (by omega) (zs_Bc (k := 25) (by decide) hb5.1 hb5.2 (zs_Bc (k := 26) (by decide) hb6.1 hb6.2 (zs_Bc (k := 27) (by decide) hb7.1 hb7.2 zs_Bn))))))))))
  · by_cases g1 : (zy_d 7 s 21).toInt = 0
    · by_cases g2 : (zy_d 7 s 22).toInt = 0
      · by_cases g3 : (zy_d 7 s 23).toInt = 0
        · by_cases g4 : (zy_d 7 s 24).toInt = 0
          · exact zy_arm_ok (Nat.le_refl 7) (Or.inr rfl) zb_20_10000 (zs_Bc (k := 9) (by decide) (by omega) (by omega) (zs_Bc (k := 7) (by decide) (by omega) (by omega) (zs_Bc (k := 20) (by decide) (by omega) (by omega) (zs_Bc (k := 21) (by decide) (by omega) (by omega) (zs_Bc (k := 22) (by decide) (by omega) (by omega) (zs_Bc (k := 23) (by decide) (by omega) (by omega) (zs_Bc (k := 24) (by decide) (by omega) (by omega) (zs_Bc (k := 25) (by decide) hb5.1 hb5.2 (zs_Bc (k := 26) (by decide) hb6.1 hb6.2 (zs_Bc (k := 27) (by decide) hb7.1 hb7.2 zs_Bn))))))))))
          · exact zy_arm_ok (Nat.le_refl 7) (Or.inr rfl) zb_20_10001 (zs_Bc (k := 9) (by decide) (by omega) (by omega) (zs_Bc (k := 7) (by decide) (by omega) (by omega) (zs_Bc (k := 20) (by decide) (by omega) (by omega) (zs_Bc (k := 21) (by decide) (by omega) (by omega) (zs_Bc (k := 22) (by decide) (by omega) (by omega) (zs_Bc (k := 23) (by decide) (by omega) (by omega) (zs_Bc (k := 24) (by decide) (by omega) (by omega) (zs_Bc (k := 25) (by decide) hb5.1 hb5.2 (zs_Bc (k := 26) (by decide) hb6.1 hb6.2 (zs_Bc (k := 27) (by decide) hb7.1 hb7.2 zs_Bn))))))))))
        · by_cases g4 : (zy_d 7 s 24).toInt = 0
          · exact zy_arm_ok (Nat.le_refl 7) (Or.inr rfl) zb_20_10010 (zs_Bc (k := 9) (by decide) (by omega) (by omega) (zs_Bc (k := 7) (by decide) (by omega) (by omega) (zs_Bc (k := 20) (by decide) (by omega) (by omega) (zs_Bc (k := 21) (by decide) (by omega) (by omega) (zs_Bc (k := 22) (by decide) (by omega) (by omega) (zs_Bc (k := 23) (by decide) (by omega) (by omega) (zs_Bc (k := 24) (by decide) (by omega) (by omega) (zs_Bc (k := 25) (by decide) hb5.1 hb5.2 (zs_Bc (k := 26) (by decide) hb6.1 hb6.2 (zs_Bc (k := 27) (by decide) hb7.1 hb7.2 zs_Bn))))))))))
          · exact zy_arm_ok (Nat.le_refl 7) (Or.inr rfl) zb_20_10011 (zs_Bc (k := 9) (by decide) (by omega) (by omega) (zs_Bc (k := 7) (by decide) (by omega) (by omega) (zs_Bc (k := 20) (by decide) (by omega) (by omega) (zs_Bc (k := 21) (by decide) (by omega) (by omega) (zs_Bc (k := 22) (by decide) (by omega) (by omega) (zs_Bc (k := 23) (by decide) (by omega) (by omega) (zs_Bc (k := 24) (by decide) (by omega) (by omega) (zs_Bc (k := 25) (by decide) hb5.1 hb5.2 (zs_Bc (k := 26) (by decide) hb6.1 hb6.2 (zs_Bc (k := 27) (by decide) hb7.1 hb7.2 zs_Bn))))))))))
      · by_cases g3 : (zy_d 7 s 23).toInt = 0
        · by_cases g4 : (zy_d 7 s 24).toInt = 0
          · exact zy_arm_ok (Nat.le_refl 7) (Or.inr rfl) zb_20_10100 (zs_Bc (k := 9) (by decide) (by omega) (by omega) (zs_Bc (k := 7) (by decide) (by omega) (by omega) (zs_Bc (k := 20) (by decide) (by omega) (by omega) (zs_Bc (k := 21) (by decide) (by omega) (by omega) (zs_Bc (k := 22) (by decide) (by omega) (by omega) (zs_Bc (k := 23) (by decide) (by omega) (by omega) (zs_Bc (k := 24) (by decide) (by omega) (by omega) (zs_Bc (k := 25) (by decide) hb5.1 hb5.2 (zs_Bc (k := 26) (by decide) hb6.1 hb6.2 (zs_Bc (k := 27) (by decide) hb7.1 hb7.2 zs_Bn))))))))))
          · exact zy_arm_ok (Nat.le_refl 7) (Or.inr rfl) zb_20_10101 (zs_Bc (k := 9) (by decide) (by omega) (by omega) (zs_Bc (k := 7) (by decide) (by omega) (by omega) (zs_Bc (k := 20) (by decide) (by omega) (by omega) (zs_Bc (k := 21) (by decide) (by omega) (by omega) (zs_Bc (k := 22) (by decide) (by omega) (by omega) (zs_Bc (k := 23) (by decide) (by omega) (by omega) (zs_Bc (k := 24) (by decide) (by omega) (by omega) (zs_Bc (k := 25) (by decide) hb5.1 hb5.2 (zs_Bc (k := 26) (by decide) hb6.1 hb6.2 (zs_Bc (k := 27) (by decide) hb7.1 hb7.2 zs_Bn))))))))))
        · by_cases g4 : (zy_d 7 s 24).toInt = 0
          · exact zy_arm_ok (Nat.le_refl 7) (Or.inr rfl) zb_20_10110 (zs_Bc (k := 9) (by decide) (by omega) (by omega) (zs_Bc (k := 7) (by decide) (by omega) (by omega) (zs_Bc (k := 20) (by decide) (by omega) (by omega) (zs_Bc (k := 21) (by decide) (by omega) (by omega) (zs_Bc (k := 22) (by decide) (by omega) (by omega) (zs_Bc (k := 23) (by decide) (by omega) (by omega) (zs_Bc (k := 24) (by decide) (by omega) (by omega) (zs_Bc (k := 25) (by decide) hb5.1 hb5.2 (zs_Bc (k := 26) (by decide) hb6.1 hb6.2 (zs_Bc (k := 27) (by decide) hb7.1 hb7.2 zs_Bn))))))))))
          · exact zy_arm_ok (Nat.le_refl 7) (Or.inr rfl) zb_20_10111 (zs_Bc (k := 9) (by decide) (by omega) (by omega) (zs_Bc (k := 7) (by decide) (by omega) (by omega) (zs_Bc (k := 20) (by decide) (by omega) (by omega) (zs_Bc (k := 21) (by decide) (by omega) (by omega) (zs_Bc (k := 22) (by decide) (by omega) (by omega) (zs_Bc (k := 23) (by decide) (by omega) (by omega) (zs_Bc (k := 24) (by decide) (by omega) (by omega) (zs_Bc (k := 25) (by decide) hb5.1 hb5.2 (zs_Bc (k := 26) (by decide) hb6.1 hb6.2 (zs_Bc (k := 27) (by decide) hb7.1 hb7.2 zs_Bn))))))))))
    · by_cases g2 : (zy_d 7 s 22).toInt = 0
      · by_cases g3 : (zy_d 7 s 23).toInt = 0
        · by_cases g4 : (zy_d 7 s 24).toInt = 0
          · exact zy_arm_ok (Nat.le_refl 7) (Or.inr rfl) zb_20_11000 (zs_Bc (k := 9) (by decide) (by omega) (by omega) (zs_Bc (k := 7) (by decide) (by omega) (by omega) (zs_Bc (k := 20) (by decide) (by omega) (by omega) (zs_Bc (k := 21) (by decide) (by omega) (by omega) (zs_Bc (k := 22) (by decide) (by omega) (by omega) (zs_Bc (k := 23) (by decide) (by omega) (by omega) (zs_Bc (k := 24) (by decide) (by omega) (by omega) (zs_Bc (k := 25) (by decide) hb5.1 hb5.2 (zs_Bc (k := 26) (by decide) hb6.1 hb6.2 (zs_Bc (k := 27) (by decide) hb7.1 hb7.2 zs_Bn))))))))))
          · exact zy_arm_ok (Nat.le_refl 7) (Or.inr rfl) zb_20_11001 (zs_Bc (k := 9) (by decide) (by omega) (by omega) (zs_Bc (k := 7) (by decide) (by omega) (by omega) (zs_Bc (k := 20) (by decide) (by omega) (by omega) (zs_Bc (k := 21) (by decide) (by omega) (by omega) (zs_Bc (k := 22) (by decide) (by omega) (by omega) (zs_Bc (k := 23) (by decide) (by omega) (by omega) (zs_Bc (k := 24) (by decide) (by omega) (by omega) (zs_Bc (k := 25) (by decide) hb5.1 hb5.2 (zs_Bc (k := 26) (by decide) hb6.1 hb6.2 (zs_Bc (k := 27) (by decide) hb7.1 hb7.2 zs_Bn))))))))))
        · by_cases g4 : (zy_d 7 s 24).toInt = 0
          · exact zy_arm_ok (Nat.le_refl 7) (Or.inr rfl) zb_20_11010 (zs_Bc (k := 9) (by decide) (by omega) (by omega) (zs_Bc (k := 7) (by decide) (by omega) (by omega) (zs_Bc (k := 20) (by decide) (by omega) (by omega) (zs_Bc (k := 21) (by decide) (by omega) (by omega) (zs_Bc (k := 22) (by decide) (by omega) (by omega) (zs_Bc (k := 23) (by decide) (by omega) (by omega) (zs_Bc (k := 24) (by decide) (by omega) (by omega) (zs_Bc (k := 25) (by decide) hb5.1 hb5.2 (zs_Bc (k := 26) (by decide) hb6.1 hb6.2 (zs_Bc (k := 27) (by decide) hb7.1 hb7.2 zs_Bn))))))))))
          · exact zy_arm_ok (Nat.le_refl 7) (Or.inr rfl) zb_20_11011 (zs_Bc (k := 9) (by decide) (by omega) (by omega) (zs_Bc (k := 7) (by decide) (by omega) (by omega) (zs_Bc (k := 20) (by decide) (by omega) (by omega) (zs_Bc (k := 21) (by decide) (by omega) (by omega) (zs_Bc (k := 22) (by decide) (by omega) (by omega) (zs_Bc (k := 23) (by decide) (by omega) (by omega) (zs_Bc (k := 24) (by decide) (by omega) (by omega) (zs_Bc (k := 25) (by decide) hb5.1 hb5.2 (zs_Bc (k := 26) (by decide) hb6.1 hb6.2 (zs_Bc (k := 27) (by decide) hb7.1 hb7.2 zs_Bn))))))))))
      · by_cases g3 : (zy_d 7 s 23).toInt = 0
        · by_cases g4 : (zy_d 7 s 24).toInt = 0
          · exact zy_arm_ok (Nat.le_refl 7) (Or.inr rfl) zb_20_11100 (zs_Bc (k := 9) (by decide) (by omega) (by omega) (zs_Bc (k := 7) (by decide) (by omega) (by omega) (zs_Bc (k := 20) (by decide) (by omega) (by omega) (zs_Bc (k := 21) (by decide) (by omega) (by omega) (zs_Bc (k := 22) (by decide) (by omega) (by omega) (zs_Bc (k := 23) (by decide) (by omega) (by omega) (zs_Bc (k := 24) (by decide) (by omega) (by omega) (zs_Bc (k := 25) (by decide) hb5.1 hb5.2 (zs_Bc (k := 26) (by decide) hb6.1 hb6.2 (zs_Bc (k := 27) (by decide) hb7.1 hb7.2 zs_Bn))))))))))
          · exact zy_arm_ok (Nat.le_refl 7) (Or.inr rfl) zb_20_11101 (zs_Bc (k := 9) (by decide) (by omega) (by omega) (zs_Bc (k := 7) (by decide) (by omega) (by omega) (zs_Bc (k := 20) (by decide) (by omega) (by omega) (zs_Bc (k := 21) (by decide) (by omega) (by omega) (zs_Bc (k := 22) (by decide) (by omega) (by omega) (zs_Bc (k := 23) (by decide) (by omega) (by omega) (zs_Bc (k := 24) (by decide) (by omega) (by omega) (zs_Bc (k := 25) (by decide) hb5.1 hb5.2 (zs_Bc (k := 26) (by decide) hb6.1 hb6.2 (zs_Bc (k := 27) (by decide) hb7.1 hb7.2 zs_Bn))))))))))
        · by_cases g4 : (zy_d 7 s 24).toInt = 0
          · exact zy_arm_ok (Nat.le_refl 7) (Or.inr rfl) zb_20_11110 (zs_Bc (k := 9) (by decide) (by omega) (by omega) (zs_Bc (k := 7) (by decide) (by omega) (by omega) (zs_Bc (k := 20) (by decide) (by omega) (by omega) (zs_Bc (k := 21) (by decide) (by omega) (by omega) (zs_Bc (k := 22) (by decide) (by omega) (by omega) (zs_Bc (k := 23) (by decide) (by omega) (by omega) (zs_Bc (k := 24) (by decide) (by omega) (by omega) (zs_Bc (k := 25) (by decide) hb5.1 hb5.2 (zs_Bc (k := 26) (by decide) hb6.1 hb6.2 (zs_Bc (k := 27) (by decide) hb7.1 hb7.2 zs_Bn))))))))))
          · exact zy_arm_ok (Nat.le_refl 7) (Or.inr rfl) zb_20_11111 (zs_Bc (k := 9) (by decide) (by omega) (by omega) (zs_Bc (k := 7) (by decide) (by omega) (by omega) (zs_Bc (k := 20) (by decide) (by omega) (by omega) (zs_Bc (k := 21) (by decide) (by omega) (by omega) (zs_Bc (k := 22) (by decide) (by omega) (by omega) (zs_Bc (k := 23) (by decide) (by omega) (by omega) (zs_Bc (k := 24) (by decide) (by omega) (by omega) (zs_Bc (k := 25) (by decide) hb5.1 hb5.2 (zs_Bc (k := 26) (by decide) hb6.1 hb6.2 (zs_Bc (k := 27) (by decide) hb7.1 hb7.2 zs_Bn))))))))))
theorem zy_law (hlen : len ≤ 7) (nf : Bool) : zy_done len s nf := by
  rcases Nat.lt_or_ge len 7 with h | h
  · have h4 : ∀ l, l < 7 → -7 ≤ (Int32.ofNat l - 7).toInt ∧ (Int32.ofNat l - 7).toInt ≤ -1 := by decide +kernel
    have h5 : zy_d len s 9 = Int32.ofNat len - 7 := rfl
    have h6 := h4 len h
    exact zy_arm_ok hlen (Or.inr rfl) zb_short (zs_Bc (k := 9) (by decide) (by rw [h5]; exact h6.1) (by rw [h5]; exact h6.2) zs_Bn)
  · obtain rfl : len = 7 := by omega
    have h9 : (zy_d 7 s 9).toInt = 0 := by
      show (Int32.ofNat 7 - 7).toInt = 0
      decide
    have h7 := zs_d7 (len := 7) (s := s)
    have go : ∀ (c d : Int), c ≤ (zy_d 7 s 7).toInt → (zy_d 7 s 7).toInt ≤ d → zs_B 7 s [(9, 0, 0), (7, c, d)] := fun c d h1 h2 => zs_Bc (k := 9) (by decide) (by omega) (by omega) (zs_Bc (k := 7) (by decide) h1 h2 zs_Bn)
    have hc : (0 ≤ (zy_d 7 s 7).toInt ∧ (zy_d 7 s 7).toInt ≤ 0) ∨ (1 ≤ (zy_d 7 s 7).toInt ∧ (zy_d 7 s 7).toInt ≤ 1) ∨ (2 ≤ (zy_d 7 s 7).toInt ∧ (zy_d 7 s 7).toInt ≤ 2) ∨ (3 ≤ (zy_d 7 s 7).toInt ∧ (zy_d 7 s 7).toInt ≤ 3) ∨ (4 ≤ (zy_d 7 s 7).toInt ∧ (zy_d 7 s 7).toInt ≤ 4) ∨ (5 ≤ (zy_d 7 s 7).toInt ∧ (zy_d 7 s 7).toInt ≤ 5) ∨ (6 ≤ (zy_d 7 s 7).toInt ∧ (zy_d 7 s 7).toInt ≤ 6) ∨ (7 ≤ (zy_d 7 s 7).toInt ∧ (zy_d 7 s 7).toInt ≤ 7) ∨ (8 ≤ (zy_d 7 s 7).toInt ∧ (zy_d 7 s 7).toInt ≤ 8) ∨ (9 ≤ (zy_d 7 s 7).toInt ∧ (zy_d 7 s 7).toInt ≤ 9) ∨ (10 ≤ (zy_d 7 s 7).toInt ∧ (zy_d 7 s 7).toInt ≤ 10) ∨ (11 ≤ (zy_d 7 s 7).toInt ∧ (zy_d 7 s 7).toInt ≤ 11) ∨ (12 ≤ (zy_d 7 s 7).toInt ∧ (zy_d 7 s 7).toInt ≤ 12) ∨ (13 ≤ (zy_d 7 s 7).toInt ∧ (zy_d 7 s 7).toInt ≤ 13) ∨ (14 ≤ (zy_d 7 s 7).toInt ∧ (zy_d 7 s 7).toInt ≤ 14) ∨ (15 ≤ (zy_d 7 s 7).toInt ∧ (zy_d 7 s 7).toInt ≤ 15) ∨ (16 ≤ (zy_d 7 s 7).toInt ∧ (zy_d 7 s 7).toInt ≤ 16) ∨ (17 ≤ (zy_d 7 s 7).toInt ∧ (zy_d 7 s 7).toInt ≤ 17) ∨ (18 ≤ (zy_d 7 s 7).toInt ∧ (zy_d 7 s 7).toInt ≤ 18) ∨ (19 ≤ (zy_d 7 s 7).toInt ∧ (zy_d 7 s 7).toInt ≤ 19) ∨ (21 ≤ (zy_d 7 s 7).toInt ∧ (zy_d 7 s 7).toInt ≤ 21) ∨ (23 ≤ (zy_d 7 s 7).toInt ∧ (zy_d 7 s 7).toInt ≤ 23) ∨ (24 ≤ (zy_d 7 s 7).toInt ∧ (zy_d 7 s 7).toInt ≤ 24) ∨ (25 ≤ (zy_d 7 s 7).toInt ∧ (zy_d 7 s 7).toInt ≤ 25) ∨ (26 ≤ (zy_d 7 s 7).toInt ∧ (zy_d 7 s 7).toInt ≤ 26) ∨ (27 ≤ (zy_d 7 s 7).toInt ∧ (zy_d 7 s 7).toInt ≤ 27) ∨ (28 ≤ (zy_d 7 s 7).toInt ∧ (zy_d 7 s 7).toInt ≤ 28) ∨ (29 ≤ (zy_d 7 s 7).toInt ∧ (zy_d 7 s 7).toInt ≤ 29) ∨ (30 ≤ (zy_d 7 s 7).toInt ∧ (zy_d 7 s 7).toInt ≤ 30) ∨ (31 ≤ (zy_d 7 s 7).toInt ∧ (zy_d 7 s 7).toInt ≤ 31) ∨ (32 ≤ (zy_d 7 s 7).toInt ∧ (zy_d 7 s 7).toInt ≤ 32) ∨ (33 ≤ (zy_d 7 s 7).toInt ∧ (zy_d 7 s 7).toInt ≤ 33) ∨ (34 ≤ (zy_d 7 s 7).toInt ∧ (zy_d 7 s 7).toInt ≤ 34) ∨ (36 ≤ (zy_d 7 s 7).toInt ∧ (zy_d 7 s 7).toInt ≤ 36) ∨ (37 ≤ (zy_d 7 s 7).toInt ∧ (zy_d 7 s 7).toInt ≤ 37) ∨ (38 ≤ (zy_d 7 s 7).toInt ∧ (zy_d 7 s 7).toInt ≤ 38) ∨ (39 ≤ (zy_d 7 s 7).toInt ∧ (zy_d 7 s 7).toInt ≤ 63) ∨ (zy_d 7 s 7).toInt = 20 ∨ (zy_d 7 s 7).toInt = 22 ∨ (zy_d 7 s 7).toInt = 35 := by omega
    rcases hc with hc | hc | hc | hc | hc | hc | hc | hc | hc | hc | hc | hc | hc | hc | hc | hc | hc | hc | hc | hc | hc | hc | hc | hc | hc | hc | hc | hc | hc | hc | hc | hc | hc | hc | hc | hc | hc | hc | hc | hc
    · exact zy_arm_ok hlen (Or.inr rfl) zb_0 (go 0 0 hc.1 hc.2)
    · exact zy_arm_ok hlen (Or.inr rfl) zb_1 (go 1 1 hc.1 hc.2)
    · exact zy_arm_ok hlen (Or.inr rfl) zb_2 (go 2 2 hc.1 hc.2)
    · exact zy_arm_ok hlen (Or.inr rfl) zb_3 (go 3 3 hc.1 hc.2)
    · exact zy_arm_ok hlen (Or.inr rfl) zb_4 (go 4 4 hc.1 hc.2)
    · exact zy_arm_ok hlen (Or.inr rfl) zb_5 (go 5 5 hc.1 hc.2)
    · exact zy_arm_ok hlen (Or.inr rfl) zb_6 (go 6 6 hc.1 hc.2)
    · exact zy_arm_ok hlen (Or.inr rfl) zb_7 (go 7 7 hc.1 hc.2)
    · exact zy_arm_ok hlen (Or.inr rfl) zb_8 (go 8 8 hc.1 hc.2)
    · exact zy_arm_ok hlen (Or.inr rfl) zb_9 (go 9 9 hc.1 hc.2)
    · exact zy_arm_ok hlen (Or.inr rfl) zb_10 (go 10 10 hc.1 hc.2)
    · exact zy_arm_ok hlen (Or.inr rfl) zb_11 (go 11 11 hc.1 hc.2)
    · exact zy_arm_ok hlen (Or.inr rfl) zb_12 (go 12 12 hc.1 hc.2)
    · exact zy_arm_ok hlen (Or.inr rfl) zb_13 (go 13 13 hc.1 hc.2)
    · exact zy_arm_ok hlen (Or.inr rfl) zb_14 (go 14 14 hc.1 hc.2)
    · exact zy_arm_ok hlen (Or.inr rfl) zb_15 (go 15 15 hc.1 hc.2)
    · exact zy_arm_ok hlen (Or.inr rfl) zb_16 (go 16 16 hc.1 hc.2)
    · exact zy_arm_ok hlen (Or.inr rfl) zb_17 (go 17 17 hc.1 hc.2)
    · exact zy_arm_ok hlen (Or.inr rfl) zb_18 (go 18 18 hc.1 hc.2)
    · exact zy_arm_ok hlen (Or.inr rfl) zb_19 (go 19 19 hc.1 hc.2)
    · exact zy_arm_ok hlen (Or.inr rfl) zb_21 (go 21 21 hc.1 hc.2)
    · exact zy_arm_ok hlen (Or.inr rfl) zb_23 (go 23 23 hc.1 hc.2)
    · exact zy_arm_ok hlen (Or.inr rfl) zb_24 (go 24 24 hc.1 hc.2)
    · exact zy_arm_ok hlen (Or.inr rfl) zb_25 (go 25 25 hc.1 hc.2)
    · exact zy_arm_ok hlen (Or.inr rfl) zb_26 (go 26 26 hc.1 hc.2)
    · exact zy_arm_ok hlen (Or.inr rfl) zb_27 (go 27 27 hc.1 hc.2)
    · exact zy_arm_ok hlen (Or.inr rfl) zb_28 (go 28 28 hc.1 hc.2)
    · exact zy_arm_ok hlen (Or.inr rfl) zb_29 (go 29 29 hc.1 hc.2)
    · exact zy_arm_ok hlen (Or.inr rfl) zb_30 (go 30 30 hc.1 hc.2)
    · exact zy_arm_ok hlen (Or.inr rfl) zb_31 (go 31 31 hc.1 hc.2)
    · exact zy_arm_ok hlen (Or.inr rfl) zb_32 (go 32 32 hc.1 hc.2)
    · exact zy_arm_ok hlen (Or.inr rfl) zb_33 (go 33 33 hc.1 hc.2)
    · exact zy_arm_ok hlen (Or.inr rfl) zb_34 (go 34 34 hc.1 hc.2)
    · exact zy_arm_ok hlen (Or.inr rfl) zb_36 (go 36 36 hc.1 hc.2)
    · exact zy_arm_ok hlen (Or.inr rfl) zb_37 (go 37 37 hc.1 hc.2)
    · exact zy_arm_ok hlen (Or.inr rfl) zb_38 (go 38 38 hc.1 hc.2)
    · exact zy_arm_ok hlen (Or.inr rfl) zb_39 (go 39 63 hc.1 hc.2)
    · exact zy_20 nf h9 hc
    · have r1 : -2147483648 ≤ (zy_d 7 s 1).toInt ∧ (zy_d 7 s 1).toInt ≤ 2147483647 := zs_rng _
      have go1 : ∀ (c d : Int), c ≤ (zy_d 7 s 1).toInt → (zy_d 7 s 1).toInt ≤ d → zs_B 7 s [(9, 0, 0), (7, 22, 22), (1, c, d)] := fun c d h1 h2 => zs_Bc (k := 9) (by decide) (by omega) (by omega) (zs_Bc (k := 7) (by decide) (by omega) (by omega) (zs_Bc (k := 1) (by decide) h1 h2 zs_Bn))
      have hd : (-2147483648 ≤ (zy_d 7 s 1).toInt ∧ (zy_d 7 s 1).toInt ≤ -1) ∨ (0 ≤ (zy_d 7 s 1).toInt ∧ (zy_d 7 s 1).toInt ≤ 0) ∨ (1 ≤ (zy_d 7 s 1).toInt ∧ (zy_d 7 s 1).toInt ≤ 1) ∨ (2 ≤ (zy_d 7 s 1).toInt ∧ (zy_d 7 s 1).toInt ≤ 2) ∨ (3 ≤ (zy_d 7 s 1).toInt ∧ (zy_d 7 s 1).toInt ≤ 2147483647) := by omega
      rcases hd with hd | hd | hd | hd | hd
      · exact zy_arm_ok hlen (Or.inr rfl) zb_22_0 (go1 (-2147483648) (-1) hd.1 hd.2)
      · cases nf with
        | false => exact zy_arm_ok hlen (Or.inl rfl) zb_22f_1 (go1 (0) (0) hd.1 hd.2)
        | true => exact zy_arm_ok hlen (Or.inl rfl) zb_22t_1 (go1 (0) (0) hd.1 hd.2)
      · cases nf with
        | false => exact zy_arm_ok hlen (Or.inl rfl) zb_22f_2 (go1 (1) (1) hd.1 hd.2)
        | true => exact zy_arm_ok hlen (Or.inl rfl) zb_22t_2 (go1 (1) (1) hd.1 hd.2)
      · cases nf with
        | false => exact zy_arm_ok hlen (Or.inl rfl) zb_22f_3 (go1 (2) (2) hd.1 hd.2)
        | true => exact zy_arm_ok hlen (Or.inl rfl) zb_22t_3 (go1 (2) (2) hd.1 hd.2)
      · exact zy_arm_ok hlen (Or.inr rfl) zb_22_4 (go1 (3) (2147483647) hd.1 hd.2)
    · have r1 : -2147483648 ≤ (zy_d 7 s 1).toInt ∧ (zy_d 7 s 1).toInt ≤ 2147483647 := zs_rng _
      have go1 : ∀ (c d : Int), c ≤ (zy_d 7 s 1).toInt → (zy_d 7 s 1).toInt ≤ d → zs_B 7 s [(9, 0, 0), (7, 35, 35), (1, c, d)] := fun c d h1 h2 => zs_Bc (k := 9) (by decide) (by omega) (by omega) (zs_Bc (k := 7) (by decide) (by omega) (by omega) (zs_Bc (k := 1) (by decide) h1 h2 zs_Bn))
      have hd : (-2147483648 ≤ (zy_d 7 s 1).toInt ∧ (zy_d 7 s 1).toInt ≤ -1) ∨ (0 ≤ (zy_d 7 s 1).toInt ∧ (zy_d 7 s 1).toInt ≤ 0) ∨ (1 ≤ (zy_d 7 s 1).toInt ∧ (zy_d 7 s 1).toInt ≤ 1) ∨ (2 ≤ (zy_d 7 s 1).toInt ∧ (zy_d 7 s 1).toInt ≤ 2) ∨ (3 ≤ (zy_d 7 s 1).toInt ∧ (zy_d 7 s 1).toInt ≤ 2147483647) := by omega
      rcases hd with hd | hd | hd | hd | hd
      · exact zy_arm_ok hlen (Or.inr rfl) zb_35_0 (go1 (-2147483648) (-1) hd.1 hd.2)
      · exact zy_arm_ok hlen (Or.inr rfl) zb_35_1 (go1 (0) (0) hd.1 hd.2)
      · exact zy_arm_ok hlen (Or.inr rfl) zb_35_2 (go1 (1) (1) hd.1 hd.2)
      · exact zy_arm_ok hlen (Or.inr rfl) zb_35_3 (go1 (2) (2) hd.1 hd.2)
      · exact zy_arm_ok hlen (Or.inr rfl) zb_35_4 (go1 (3) (2147483647) hd.1 hd.2)
end ZLAW
