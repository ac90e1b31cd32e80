set_option maxRecDepth 100000 in
theorem zd_g17 : ∀ k, k < 22 → zd_g (221 + k) = true := by decide +kernel
set_option maxRecDepth 100000 in
theorem zd_g18 : ∀ k, k < 11 → zd_g (243 + k) = true := by decide +kernel
set_option maxRecDepth 100000 in
theorem zd_g19 : ∀ k, k < 14 → zd_g (254 + k) = true := by decide +kernel
set_option maxRecDepth 100000 in
theorem zd_g20 : ∀ k, k < 9 → zd_g (268 + k) = true := by decide +kernel
set_option maxRecDepth 100000 in
theorem zd_g21 : ∀ k, k < 9 → zd_g (277 + k) = true := by decide +kernel
set_option maxRecDepth 100000 in
theorem zd_g22 : ∀ k, k < 8 → zd_g (286 + k) = true := by decide +kernel
set_option maxRecDepth 100000 in
theorem zd_g23 : ∀ k, k < 7 → zd_g (294 + k) = true := by decide +kernel
set_option maxRecDepth 100000 in
theorem zd_g24 : ∀ k, k < 8 → zd_g (301 + k) = true := by decide +kernel
set_option maxRecDepth 100000 in
theorem zd_g25 : ∀ k, k < 8 → zd_g (309 + k) = true := by decide +kernel
set_option maxRecDepth 100000 in
theorem zd_g26 : ∀ k, k < 6 → zd_g (317 + k) = true := by decide +kernel
set_option maxRecDepth 100000 in
theorem zd_g27 : ∀ k, k < 14 → zd_g (323 + k) = true := by decide +kernel
set_option maxRecDepth 100000 in
theorem zd_g28 : ∀ k, k < 18 → zd_g (337 + k) = true := by decide +kernel
set_option maxRecDepth 100000 in
theorem zd_g29 : ∀ k, k < 13 → zd_g (355 + k) = true := by decide +kernel
set_option maxRecDepth 100000 in
theorem zd_g30 : ∀ k, k < 10 → zd_g (368 + k) = true := by decide +kernel
set_option maxRecDepth 100000 in
theorem zd_g31 : ∀ k, k < 5 → zd_g (378 + k) = true := by decide +kernel
set_option maxRecDepth 100000 in
theorem zd_g32 : ∀ k, k < 4 → zd_g (383 + k) = true := by decide +kernel
set_option maxRecDepth 100000 in
theorem zd_g33 : ∀ k, k < 7 → zd_g (387 + k) = true := by decide +kernel
set_option maxRecDepth 100000 in
theorem zd_g34 : ∀ k, k < 2 → zd_g (394 + k) = true := by decide +kernel
theorem zd_gall (mi : Nat) (h : mi < 396) : zd_g mi = true := by
  rcases Nat.eq_zero_or_pos mi with h0 | h0
  · rw [h0]; exact zd_g_law
  rcases Nat.lt_or_ge mi 17 with h1 | h1
  · have h9 := zd_g0 (mi - 1) (by omega); rwa [Nat.add_sub_cancel' (by omega : 1 ≤ mi)] at h9
  rcases Nat.lt_or_ge mi 29 with h2 | h2
  · have h9 := zd_g1 (mi - 17) (by omega); rwa [Nat.add_sub_cancel' (by omega : 17 ≤ mi)] at h9
  rcases Nat.lt_or_ge mi 42 with h3 | h3
  · have h9 := zd_g2 (mi - 29) (by omega); rwa [Nat.add_sub_cancel' (by omega : 29 ≤ mi)] at h9
  rcases Nat.lt_or_ge mi 58 with h4 | h4
  · have h9 := zd_g3 (mi - 42) (by omega); rwa [Nat.add_sub_cancel' (by omega : 42 ≤ mi)] at h9
  rcases Nat.lt_or_ge mi 74 with h5 | h5
  · have h9 := zd_g4 (mi - 58) (by omega); rwa [Nat.add_sub_cancel' (by omega : 58 ≤ mi)] at h9
  rcases Nat.lt_or_ge mi 85 with h6 | h6
  · have h9 := zd_g5 (mi - 74) (by omega); rwa [Nat.add_sub_cancel' (by omega : 74 ≤ mi)] at h9
  rcases Nat.lt_or_ge mi 98 with h7 | h7
  · have h9 := zd_g6 (mi - 85) (by omega); rwa [Nat.add_sub_cancel' (by omega : 85 ≤ mi)] at h9
  rcases Nat.lt_or_ge mi 105 with h8 | h8
  · have h9 := zd_g7 (mi - 98) (by omega); rwa [Nat.add_sub_cancel' (by omega : 98 ≤ mi)] at h9
  rcases Nat.lt_or_ge mi 121 with h9 | h9
  · have h9 := zd_g8 (mi - 105) (by omega); rwa [Nat.add_sub_cancel' (by omega : 105 ≤ mi)] at h9
  rcases Nat.lt_or_ge mi 141 with h10 | h10
  · have h9 := zd_g9 (mi - 121) (by omega); rwa [Nat.add_sub_cancel' (by omega : 121 ≤ mi)] at h9
  rcases Nat.lt_or_ge mi 153 with h11 | h11
  · have h9 := zd_g10 (mi - 141) (by omega); rwa [Nat.add_sub_cancel' (by omega : 141 ≤ mi)] at h9
  rcases Nat.lt_or_ge mi 163 with h12 | h12
  · have h9 := zd_g11 (mi - 153) (by omega); rwa [Nat.add_sub_cancel' (by omega : 153 ≤ mi)] at h9
  rcases Nat.lt_or_ge mi 175 with h13 | h13
  · have h9 := zd_g12 (mi - 163) (by omega); rwa [Nat.add_sub_cancel' (by omega : 163 ≤ mi)] at h9
  rcases Nat.lt_or_ge mi 189 with h14 | h14
  · have h9 := zd_g13 (mi - 175) (by omega); rwa [Nat.add_sub_cancel' (by omega : 175 ≤ mi)] at h9
  rcases Nat.lt_or_ge mi 199 with h15 | h15
  · have h9 := zd_g14 (mi - 189) (by omega); rwa [Nat.add_sub_cancel' (by omega : 189 ≤ mi)] at h9
  rcases Nat.lt_or_ge mi 208 with h16 | h16
  · have h9 := zd_g15 (mi - 199) (by omega); rwa [Nat.add_sub_cancel' (by omega : 199 ≤ mi)] at h9
  rcases Nat.lt_or_ge mi 221 with h17 | h17
  · have h9 := zd_g16 (mi - 208) (by omega); rwa [Nat.add_sub_cancel' (by omega : 208 ≤ mi)] at h9
  rcases Nat.lt_or_ge mi 243 with h18 | h18
  · have h9 := zd_g17 (mi - 221) (by omega); rwa [Nat.add_sub_cancel' (by omega : 221 ≤ mi)] at h9
  rcases Nat.lt_or_ge mi 254 with h19 | h19
  · have h9 := zd_g18 (mi - 243) (by omega); rwa [Nat.add_sub_cancel' (by omega : 243 ≤ mi)] at h9
  rcases Nat.lt_or_ge mi 268 with h20 | h20
  · have h9 := zd_g19 (mi - 254) (by omega); rwa [Nat.add_sub_cancel' (by omega : 254 ≤ mi)] at h9
  rcases Nat.lt_or_ge mi 277 with h21 | h21
  · have h9 := zd_g20 (mi - 268) (by omega); rwa [Nat.add_sub_cancel' (by omega : 268 ≤ mi)] at h9
  rcases Nat.lt_or_ge mi 286 with h22 | h22
  · have h9 := zd_g21 (mi - 277) (by omega); rwa [Nat.add_sub_cancel' (by omega : 277 ≤ mi)] at h9
  rcases Nat.lt_or_ge mi 294 with h23 | h23
  · have h9 := zd_g22 (mi - 286) (by omega); rwa [Nat.add_sub_cancel' (by omega : 286 ≤ mi)] at h9
  rcases Nat.lt_or_ge mi 301 with h24 | h24
  · have h9 := zd_g23 (mi - 294) (by omega); rwa [Nat.add_sub_cancel' (by omega : 294 ≤ mi)] at h9
  rcases Nat.lt_or_ge mi 309 with h25 | h25
  · have h9 := zd_g24 (mi - 301) (by omega); rwa [Nat.add_sub_cancel' (by omega : 301 ≤ mi)] at h9
  rcases Nat.lt_or_ge mi 317 with h26 | h26
  · have h9 := zd_g25 (mi - 309) (by omega); rwa [Nat.add_sub_cancel' (by omega : 309 ≤ mi)] at h9
  rcases Nat.lt_or_ge mi 323 with h27 | h27
  · have h9 := zd_g26 (mi - 317) (by omega); rwa [Nat.add_sub_cancel' (by omega : 317 ≤ mi)] at h9
  rcases Nat.lt_or_ge mi 337 with h28 | h28
  · have h9 := zd_g27 (mi - 323) (by omega); rwa [Nat.add_sub_cancel' (by omega : 323 ≤ mi)] at h9
  rcases Nat.lt_or_ge mi 355 with h29 | h29
  · have h9 := zd_g28 (mi - 337) (by omega); rwa [Nat.add_sub_cancel' (by omega : 337 ≤ mi)] at h9
  rcases Nat.lt_or_ge mi 368 with h30 | h30
  · have h9 := zd_g29 (mi - 355) (by omega); rwa [Nat.add_sub_cancel' (by omega : 355 ≤ mi)] at h9
  rcases Nat.lt_or_ge mi 378 with h31 | h31
  · have h9 := zd_g30 (mi - 368) (by omega); rwa [Nat.add_sub_cancel' (by omega : 368 ≤ mi)] at h9
  rcases Nat.lt_or_ge mi 383 with h32 | h32
  · have h9 := zd_g31 (mi - 378) (by omega); rwa [Nat.add_sub_cancel' (by omega : 378 ≤ mi)] at h9
  rcases Nat.lt_or_ge mi 387 with h33 | h33
  · have h9 := zd_g32 (mi - 383) (by omega); rwa [Nat.add_sub_cancel' (by omega : 383 ≤ mi)] at h9
  rcases Nat.lt_or_ge mi 394 with h34 | h34
  · have h9 := zd_g33 (mi - 387) (by omega); rwa [Nat.add_sub_cancel' (by omega : 387 ≤ mi)] at h9
  have h9 := zd_g34 (mi - 394) (by omega); rwa [Nat.add_sub_cancel' (by omega : 394 ≤ mi)] at h9
theorem zt_len : zt_m.length = 396 := by decide +kernel
theorem zd_ok {mi pc : Nat} {m : zx_M} {e : Instr × Nat} (hm : zt_m[mi]? = some m) (h : zd mi pc = some e) : decode m.2.1 pc = .ok e := by
  have hl : mi < zt_m.length := (List.getElem?_eq_some_iff.mp hm).1
  have h0 := zd_gall mi (Nat.lt_of_lt_of_eq hl zt_len)
  unfold zd at h
  simp only [Option.bind_eq_some_iff] at h
  obtain ⟨t, ht, l, hl9, h9⟩ := h
  unfold zd_g at h0
  rw [hm, ht] at h0
  have h1 := List.all_eq_true.mp h0 l (List.mem_of_getElem? hl9)
  have h2 := List.all_eq_true.mp h1 _ (zd_lf_mem h9)
  simpa using h2
