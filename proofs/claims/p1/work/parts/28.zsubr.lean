section ZYSR
variable {len : Nat} {s : Nat → Int32}
theorem zs_i7 : ∀ y : Int32, (y = 7 ∨ y = 1 ∨ y = 63 ∨ y = 32) → zs_i len s y = y := by
  intro y hy
  rcases hy with rfl | rfl | rfl | rfl <;> exact zs_i_n (by decide)
theorem zs_small {y : Int32} (h : y.toUInt32.toNat < 64) : zy_c y = none := by
  unfold zy_c
  dsimp only
  rw [if_neg (by unfold zy_b; omega)]
theorem zs_ofNat (y : Int32) : Int32.ofNat y.toUInt32.toNat = y := by
  apply Int32.toBitVec.inj
  simp [Int32.ofNat]
theorem zs_clamp {y : Int32} (h : y.toUInt32.toNat < 64) : y.toNatClampNeg = y.toUInt32.toNat ∧ ¬ y < 0 := by
  have h1 : y = Int32.ofNat y.toUInt32.toNat := (zs_ofNat y).symm
  generalize y.toUInt32.toNat = k at h h1
  subst h1
  revert k
  decide +kernel
theorem zs_op {bx : zy_B} (hB : zs_B len s bx) (hlen : len ≤ 7) {n : Nat} {st st' : List Value} {ins : Instr} (h : ((zy_op ins n).bind fun g => g bx st) = some st') (nL pc oc : Nat) (ini nf : Bool) (lv : List (Nat × Value)) (H : zx_H) :
    zx_p nL pc lv (zs_st len s st) ins n = some (pc + n, lv, zs_st len s st') ∨ (zx_p nL pc lv (zs_st len s st) ins n = none ∧ zx_h oc ini ((len, s), nf) pc lv (zs_st len s st) H ins n = some ((pc + n, lv, zs_st len s st'), H)) := by
  unfold zy_op at h
  split at h
  · -- arraylength
    simp only [Option.bind_some] at h
    split at h
    · split at h
      · next hq =>
        cases h
        refine Or.inr ⟨rfl, ?_⟩
        simp only [zx_h, zs_st, List.map_cons, zs_vi, zs_vl, zs_vr, zs_vn, zs_vd, hq, if_true, zs_zi (show 8 < 64 by decide)]
        rfl
      · cases h
    · cases h
  · -- iaload
    simp only [Option.bind_some] at h
    split at h
    · next i q r =>
      split at h
      · next hc =>
        cases h
        refine Or.inr ⟨rfl, ?_⟩
        obtain ⟨hq, h9, hi⟩ := hc
        have h1 := zs_iv hB (k := 9) (by decide)
        have h2 : (zy_d len s 9) = Int32.ofNat len - 7 := rfl
        have h3 : 7 ≤ len := by
          rw [h2] at h1
          have h4 : ∀ l, l < 7 → (Int32.ofNat l - 7).toInt < 0 := by decide +kernel
          rcases Nat.lt_or_ge len 7 with h5 | h5
          · have := h4 len h5; omega
          · exact h5
        have hcl := zs_clamp (y := i) (by omega)
        have hd : zy_d len s i.toUInt32.toNat = s i.toUInt32.toNat := by unfold zy_d; rw [if_pos hi]
        simp only [zx_h, zs_st, List.map_cons, zs_vi, zs_vl, zs_vr, zs_vn, zs_vd, hq, if_true, zs_i_n (zs_small (y := i) (by omega)), zs_zi (show i.toUInt32.toNat < 64 by omega), hd, hcl.1]
        rw [if_pos]
        intro h5
        rcases h5 with h5 | h5
        · exact hcl.2 h5
        · rw [hcl.1] at h5; omega
      · cases h
    · cases h
  · -- isub
    simp only [Option.bind_some] at h
    split at h
    · split at h
      · next hc =>
        cases h
        refine Or.inl ?_
        simp only [zx_p, zs_st, List.map_cons, zs_vi, zs_vl, zs_vr, zs_vn, zs_vd, zs_i_c hc.1, zs_i7 _ (Or.inl hc.2), zs_zi (show 9 < 64 by decide), hc.2]
        rfl
      · split at h
        · next hc =>
          cases h
          refine Or.inl ?_
          simp only [zx_p, zs_st, List.map_cons, zs_vi, zs_vl, zs_vr, zs_vn, zs_vd, zs_i_c hc.1, zs_i7 _ (Or.inr (Or.inl hc.2)), zs_zi (show 11 < 64 by decide), hc.2]
          rfl
        · cases h
    · cases h
  · -- imul
    simp only [Option.bind_some] at h
    split at h
    · split at h
      · next hc =>
        cases h
        refine Or.inl ?_
        simp only [zx_p, zs_st, List.map_cons, zs_vi, zs_vl, zs_vr, zs_vn, zs_vd, zs_i_c hc.1, zs_i_c hc.2, zs_zi (show 12 < 64 by decide)]
        rfl
      · cases h
    · cases h
  · -- iadd
    simp only [Option.bind_some] at h
    split at h
    · split at h
      · next hc =>
        cases h
        refine Or.inl ?_
        simp only [zx_p, zs_st, List.map_cons, zs_vi, zs_vl, zs_vr, zs_vn, zs_vd, zs_i_c hc.1, zs_i_c hc.2, zs_zi (show 13 < 64 by decide)]
        rfl
      · cases h
    · cases h
  · -- iand
    simp only [Option.bind_some] at h
    split at h
    · split at h
      · next hc =>
        cases h
        refine Or.inl ?_
        simp only [zx_p, zs_st, List.map_cons, zs_vi, zs_vl, zs_vr, zs_vn, zs_vd, zs_i_c hc.1, zs_i7 _ (Or.inr (Or.inr (Or.inl hc.2))), zs_zi (show 7 < 64 by decide), hc.2]
        rfl
      · cases h
    · cases h
  · -- i2l
    simp only [Option.bind_some] at h
    split at h
    · simp only [Option.map_eq_some_iff] at h
      obtain ⟨k, hk, rfl⟩ := h
      have h64 := zs_c_lt hk
      refine Or.inl ?_
      simp only [zx_p, zs_st, List.map_cons, zs_vi, zs_vl, zs_vr, zs_vn, zs_vd, zs_i_c hk, zs_zl (show k < 1024 by omega)]
      unfold zy_dL
      rw [if_pos h64]
    · cases h
  · -- lshl
    simp only [Option.bind_some] at h
    split at h
    · split at h
      · next k hk =>
        split at h
        · next hc =>
          cases h
          refine Or.inl ?_
          simp only [zx_p, zs_st, List.map_cons, zs_vi, zs_vl, zs_vr, zs_vn, zs_vd, zs_l_c hk, zs_i7 _ (Or.inr (Or.inr (Or.inr hc.2))), zs_zl (show 100 + k < 1024 by omega), hc.2]
          unfold zy_dL
          rw [if_pos (by omega), if_neg (by omega), if_pos (by omega), show 100 + k - 100 = k by omega]
          rfl
        · cases h
      · cases h
    · cases h
  · -- land
    simp only [Option.bind_some] at h
    split at h
    · next y x r =>
      split at h
      · next k hk =>
        split at h
        · next hc =>
          cases h
          refine Or.inl ?_
          have hy : zs_l len s 4294967295 = 4294967295 := zs_l_n (by decide)
          simp only [zx_p, zs_st, List.map_cons, zs_vi, zs_vl, zs_vr, zs_vn, zs_vd, zs_l_c hk, hy, zs_zl (show 200 + k < 1024 by omega), hc.2]
          unfold zy_dL
          rw [if_pos (by omega), if_neg (by omega), if_neg (by omega), if_pos (by omega), show 200 + k - 200 = k by omega]
          rfl
        · have hby : ∀ j, j < 8 → zy_dL len s (20 + j) = zy_by s j := by
            intro j hj
            unfold zy_dL
            rw [if_pos (by omega)]
            have h1 : zy_d len s (20 + j) = (zy_by s j).toInt32 := by
              unfold zy_d
              rw [if_neg (by omega), if_neg (by omega), if_neg (by omega), if_neg (by omega), if_neg (by omega), if_neg (by omega), if_neg (by omega), if_pos (by omega), show 20 + j - 20 = j by omega]
            rw [h1]
            exact zs_w255 _
          split at h
          · next hc =>
            cases h
            refine Or.inl ?_
            have hy : zs_l len s 255 = 255 := zs_l_n (by decide)
            simp only [zx_p, zs_st, List.map_cons, zs_vi, zs_vl, zs_vr, zs_vn, zs_vd, zs_l_c hk, hy, zs_zl (show 20 + (k - 400) / 8 < 1024 by omega), hc.2.2.2, hby ((k - 400) / 8) (by omega)]
            unfold zy_dL
            rw [if_neg (by omega), if_neg (by omega), if_neg (by omega), if_neg (by omega), if_pos (by omega)]
            unfold zy_by
            rw [show 8 * ((k - 400) / 8) = k - 400 by omega]
          · split at h
            · next hc =>
              cases h
              refine Or.inl ?_
              have hy : zs_l len s 255 = 255 := zs_l_n (by decide)
              simp only [zx_p, zs_st, List.map_cons, zs_vi, zs_vl, zs_vr, zs_vn, zs_vd, zs_l_c hk, hy, zs_zl (show 20 + (k - 500) / 8 < 1024 by omega), hc.2.2.2, hby ((k - 500) / 8) (by omega)]
              unfold zy_dL
              rw [if_neg (by omega), if_neg (by omega), if_neg (by omega), if_neg (by omega), if_neg (by omega)]
              have h9 := zs_shr8 (zy_T s) ((k - 500) / 8) (by omega)
              rw [show 8 * ((k - 500) / 8) = k - 500 by omega] at h9
              unfold zy_by
              rw [show 8 * ((k - 500) / 8) = k - 500 by omega, h9]
            · cases h
      · cases h
    · cases h
  · -- lor
    simp only [Option.bind_some] at h
    split at h
    · split at h
      · next k j hk hj =>
        split at h
        · next hc =>
          cases h
          refine Or.inl ?_
          simp only [zx_p, zs_st, List.map_cons, zs_vi, zs_vl, zs_vr, zs_vn, zs_vd, zs_l_c hk, zs_l_c hj, zs_zl (show k + 200 < 1024 by omega)]
          obtain ⟨h1, h2, rfl⟩ := hc
          have e1 : zy_dL len s k = zy_L1 (zy_d len s (k - 100)) := by unfold zy_dL; rw [if_neg (by omega), if_pos (by omega)]
          have e2 : zy_dL len s (k + 101) = zy_L2 (zy_d len s (k + 101 - 200)) := by unfold zy_dL; rw [if_neg (by omega), if_neg (by omega), if_pos (by omega)]
          have e3 : zy_dL len s (k + 200) = zy_L1 (zy_d len s (k + 200 - 300)) ||| zy_L2 (zy_d len s (k + 200 - 300 + 1)) := by unfold zy_dL; rw [if_neg (by omega), if_neg (by omega), if_neg (by omega), if_pos (by omega)]
          rw [e1, e2, e3, show k + 200 - 300 = k - 100 by omega, show k - 100 + 1 = k + 101 - 200 by omega]
        · cases h
      · cases h
    · cases h
  · -- lushr
    simp only [Option.bind_some] at h
    split at h
    · next y x r =>
      split at h
      · next hc =>
        cases h
        refine Or.inl ?_
        have h301 : zy_dL len s 301 = zy_T s := rfl
        simp only [zx_p, zs_st, List.map_cons, zs_vi, zs_vl, zs_vr, zs_vn, zs_vd, zs_l_c hc.1, h301, zs_i_n (zs_small (y := y) (by omega)), zs_zl (show 400 + y.toUInt32.toNat < 1024 by omega)]
        unfold zy_dL
        rw [if_neg (by omega), if_neg (by omega), if_neg (by omega), if_neg (by omega), if_pos (by omega), show 400 + y.toUInt32.toNat - 400 = y.toUInt32.toNat by omega, zs_ofNat]
      · cases h
    · cases h
  · -- lshr
    simp only [Option.bind_some] at h
    split at h
    · next y x r =>
      split at h
      · next hc =>
        cases h
        refine Or.inl ?_
        have h301 : zy_dL len s 301 = zy_T s := rfl
        simp only [zx_p, zs_st, List.map_cons, zs_vi, zs_vl, zs_vr, zs_vn, zs_vd, zs_l_c hc.1, h301, zs_i_n (zs_small (y := y) (by omega)), zs_zl (show 500 + y.toUInt32.toNat < 1024 by omega)]
        unfold zy_dL
        rw [if_neg (by omega), if_neg (by omega), if_neg (by omega), if_neg (by omega), if_neg (by omega), show 500 + y.toUInt32.toNat - 500 = y.toUInt32.toNat by omega, zs_ofNat]
      · cases h
    · cases h
  · -- lcmp
    simp only [Option.bind_some] at h
    split at h
    · next y x r =>
      have hL : ∀ k, k < 64 → zy_dL len s k = (zy_d len s k).toInt64 := fun k hk => by unfold zy_dL; rw [if_pos hk]
      by_cases hc0 : zy_cL x = some 3 ∧ y = -1000000
      · rw [if_pos hc0] at h; cases h
        have hy : zs_l len s (-1000000) = (-1000000) := zs_l_n (by decide)
        refine Or.inl ?_
        simp only [zx_p, zs_st, List.map_cons, zs_vi, zs_vl, zs_vr, zs_vn, zs_vd, hc0.2, hy, zs_l_c hc0.1, hL 3 (by decide), zs_zi (show 28 < 64 by decide)]
        rfl
      by_cases hc1 : zy_cL x = some 3 ∧ y = 1000000
      · rw [if_neg hc0] at h; rw [if_pos hc1] at h; cases h
        have hy : zs_l len s 1000000 = 1000000 := zs_l_n (by decide)
        refine Or.inl ?_
        simp only [zx_p, zs_st, List.map_cons, zs_vi, zs_vl, zs_vr, zs_vn, zs_vd, hc1.2, hy, zs_l_c hc1.1, hL 3 (by decide), zs_zi (show 29 < 64 by decide)]
        rfl
      by_cases hc2 : zy_cL x = some 4 ∧ y = -1000
      · rw [if_neg hc0] at h; rw [if_neg hc1] at h; rw [if_pos hc2] at h; cases h
        have hy : zs_l len s (-1000) = (-1000) := zs_l_n (by decide)
        refine Or.inl ?_
        simp only [zx_p, zs_st, List.map_cons, zs_vi, zs_vl, zs_vr, zs_vn, zs_vd, hc2.2, hy, zs_l_c hc2.1, hL 4 (by decide), zs_zi (show 30 < 64 by decide)]
        rfl
      by_cases hc3 : zy_cL x = some 4 ∧ y = 1000
      · rw [if_neg hc0] at h; rw [if_neg hc1] at h; rw [if_neg hc2] at h; rw [if_pos hc3] at h; cases h
        have hy : zs_l len s 1000 = 1000 := zs_l_n (by decide)
        refine Or.inl ?_
        simp only [zx_p, zs_st, List.map_cons, zs_vi, zs_vl, zs_vr, zs_vn, zs_vd, hc3.2, hy, zs_l_c hc3.1, hL 4 (by decide), zs_zi (show 31 < 64 by decide)]
        rfl
      by_cases hc4 : zy_cL x = some 5 ∧ y = 1
      · rw [if_neg hc0] at h; rw [if_neg hc1] at h; rw [if_neg hc2] at h; rw [if_neg hc3] at h; rw [if_pos hc4] at h; cases h
        have hy : zs_l len s 1 = 1 := zs_l_n (by decide)
        refine Or.inl ?_
        simp only [zx_p, zs_st, List.map_cons, zs_vi, zs_vl, zs_vr, zs_vn, zs_vd, hc4.2, hy, zs_l_c hc4.1, hL 5 (by decide), zs_zi (show 32 < 64 by decide)]
        rfl
      by_cases hc5 : zy_cL x = some 5 ∧ y = 40
      · rw [if_neg hc0] at h; rw [if_neg hc1] at h; rw [if_neg hc2] at h; rw [if_neg hc3] at h; rw [if_neg hc4] at h; rw [if_pos hc5] at h; cases h
        have hy : zs_l len s 40 = 40 := zs_l_n (by decide)
        refine Or.inl ?_
        simp only [zx_p, zs_st, List.map_cons, zs_vi, zs_vl, zs_vr, zs_vn, zs_vd, hc5.2, hy, zs_l_c hc5.1, hL 5 (by decide), zs_zi (show 33 < 64 by decide)]
        rfl
      by_cases hc6 : zy_cL x = some 13 ∧ y = -1000000
      · rw [if_neg hc0] at h; rw [if_neg hc1] at h; rw [if_neg hc2] at h; rw [if_neg hc3] at h; rw [if_neg hc4] at h; rw [if_neg hc5] at h; rw [if_pos hc6] at h; cases h
        have hy : zs_l len s (-1000000) = (-1000000) := zs_l_n (by decide)
        refine Or.inl ?_
        simp only [zx_p, zs_st, List.map_cons, zs_vi, zs_vl, zs_vr, zs_vn, zs_vd, hc6.2, hy, zs_l_c hc6.1, hL 13 (by decide), zs_zi (show 34 < 64 by decide)]
        rfl
      by_cases hc7 : zy_cL x = some 13 ∧ y = 1000000
      · rw [if_neg hc0] at h; rw [if_neg hc1] at h; rw [if_neg hc2] at h; rw [if_neg hc3] at h; rw [if_neg hc4] at h; rw [if_neg hc5] at h; rw [if_neg hc6] at h; rw [if_pos hc7] at h; cases h
        have hy : zs_l len s 1000000 = 1000000 := zs_l_n (by decide)
        refine Or.inl ?_
        simp only [zx_p, zs_st, List.map_cons, zs_vi, zs_vl, zs_vr, zs_vn, zs_vd, hc7.2, hy, zs_l_c hc7.1, hL 13 (by decide), zs_zi (show 35 < 64 by decide)]
        rfl
      rw [if_neg hc0] at h; rw [if_neg hc1] at h; rw [if_neg hc2] at h; rw [if_neg hc3] at h; rw [if_neg hc4] at h; rw [if_neg hc5] at h; rw [if_neg hc6] at h; rw [if_neg hc7] at h; cases h
    · cases h
  · -- l2i
    simp only [Option.bind_some] at h
    split at h
    · split at h
      · next k hk =>
        split at h
        · next hc =>
          cases h
          refine Or.inl ?_
          simp only [zx_p, zs_st, List.map_cons, zs_vi, zs_vl, zs_vr, zs_vn, zs_vd, zs_l_c hk, zs_zi hc]
          unfold zy_dL
          rw [if_pos hc, Int32.toInt32_toInt64]
        · cases h
      · cases h
    · cases h
  · cases h
end ZYSR
