set_option maxRecDepth 100000 in
theorem zd_g13 : ∀ k, k < 23 → zd_g (174 + k) = true := by decide +kernel
set_option maxRecDepth 100000 in
theorem zd_g14 : ∀ k, k < 7 → zd_g (197 + k) = true := by decide +kernel
set_option maxRecDepth 100000 in
theorem zd_g15 : ∀ k, k < 12 → zd_g (204 + k) = true := by decide +kernel
set_option maxRecDepth 100000 in
theorem zd_g16 : ∀ k, k < 34 → zd_g (216 + k) = true := by decide +kernel
set_option maxRecDepth 100000 in
theorem zd_g17 : ∀ k, k < 7 → zd_g (250 + k) = true := by decide +kernel
set_option maxRecDepth 100000 in
theorem zd_g18 : ∀ k, k < 6 → zd_g (257 + k) = true := by decide +kernel
set_option maxRecDepth 100000 in
theorem zd_g19 : ∀ k, k < 13 → zd_g (263 + k) = true := by decide +kernel
set_option maxRecDepth 100000 in
theorem zd_g20 : ∀ k, k < 8 → zd_g (276 + k) = true := by decide +kernel
set_option maxRecDepth 100000 in
theorem zd_g21 : ∀ k, k < 5 → zd_g (284 + k) = true := by decide +kernel
set_option maxRecDepth 100000 in
theorem zd_g22 : ∀ k, k < 5 → zd_g (289 + k) = true := by decide +kernel
set_option maxRecDepth 100000 in
theorem zd_g23 : ∀ k, k < 3 → zd_g (294 + k) = true := by decide +kernel
set_option maxRecDepth 100000 in
theorem zd_g24 : ∀ k, k < 4 → zd_g (297 + k) = true := by decide +kernel
set_option maxRecDepth 100000 in
theorem zd_g25 : ∀ k, k < 2 → zd_g (301 + k) = true := by decide +kernel
theorem zd_gall (mi : Nat) (h : mi < 303) : zd_g mi = true := by
  rcases Nat.eq_zero_or_pos mi with h0 | h0
  · rw [h0]; exact zd_g_law
  rcases Nat.lt_or_ge mi 16 with h1 | h1
  · have h9 := zd_g0 (mi - 1) (by omega); rwa [Nat.add_sub_cancel' (by omega : 1 ≤ mi)] at h9
  rcases Nat.lt_or_ge mi 22 with h2 | h2
  · have h9 := zd_g1 (mi - 16) (by omega); rwa [Nat.add_sub_cancel' (by omega : 16 ≤ mi)] at h9
  rcases Nat.lt_or_ge mi 33 with h3 | h3
  · have h9 := zd_g2 (mi - 22) (by omega); rwa [Nat.add_sub_cancel' (by omega : 22 ≤ mi)] at h9
  rcases Nat.lt_or_ge mi 51 with h4 | h4
  · have h9 := zd_g3 (mi - 33) (by omega); rwa [Nat.add_sub_cancel' (by omega : 33 ≤ mi)] at h9
  rcases Nat.lt_or_ge mi 62 with h5 | h5
  · have h9 := zd_g4 (mi - 51) (by omega); rwa [Nat.add_sub_cancel' (by omega : 51 ≤ mi)] at h9
  rcases Nat.lt_or_ge mi 75 with h6 | h6
  · have h9 := zd_g5 (mi - 62) (by omega); rwa [Nat.add_sub_cancel' (by omega : 62 ≤ mi)] at h9
  rcases Nat.lt_or_ge mi 82 with h7 | h7
  · have h9 := zd_g6 (mi - 75) (by omega); rwa [Nat.add_sub_cancel' (by omega : 75 ≤ mi)] at h9
  rcases Nat.lt_or_ge mi 95 with h8 | h8
  · have h9 := zd_g7 (mi - 82) (by omega); rwa [Nat.add_sub_cancel' (by omega : 82 ≤ mi)] at h9
  rcases Nat.lt_or_ge mi 107 with h9 | h9
  · have h9 := zd_g8 (mi - 95) (by omega); rwa [Nat.add_sub_cancel' (by omega : 95 ≤ mi)] at h9
  rcases Nat.lt_or_ge mi 117 with h10 | h10
  · have h9 := zd_g9 (mi - 107) (by omega); rwa [Nat.add_sub_cancel' (by omega : 107 ≤ mi)] at h9
  rcases Nat.lt_or_ge mi 128 with h11 | h11
  · have h9 := zd_g10 (mi - 117) (by omega); rwa [Nat.add_sub_cancel' (by omega : 117 ≤ mi)] at h9
  rcases Nat.lt_or_ge mi 146 with h12 | h12
  · have h9 := zd_g11 (mi - 128) (by omega); rwa [Nat.add_sub_cancel' (by omega : 128 ≤ mi)] at h9
  rcases Nat.lt_or_ge mi 174 with h13 | h13
  · have h9 := zd_g12 (mi - 146) (by omega); rwa [Nat.add_sub_cancel' (by omega : 146 ≤ mi)] at h9
  rcases Nat.lt_or_ge mi 197 with h14 | h14
  · have h9 := zd_g13 (mi - 174) (by omega); rwa [Nat.add_sub_cancel' (by omega : 174 ≤ mi)] at h9
  rcases Nat.lt_or_ge mi 204 with h15 | h15
  · have h9 := zd_g14 (mi - 197) (by omega); rwa [Nat.add_sub_cancel' (by omega : 197 ≤ mi)] at h9
  rcases Nat.lt_or_ge mi 216 with h16 | h16
  · have h9 := zd_g15 (mi - 204) (by omega); rwa [Nat.add_sub_cancel' (by omega : 204 ≤ mi)] at h9
  rcases Nat.lt_or_ge mi 250 with h17 | h17
  · have h9 := zd_g16 (mi - 216) (by omega); rwa [Nat.add_sub_cancel' (by omega : 216 ≤ mi)] at h9
  rcases Nat.lt_or_ge mi 257 with h18 | h18
  · have h9 := zd_g17 (mi - 250) (by omega); rwa [Nat.add_sub_cancel' (by omega : 250 ≤ mi)] at h9
  rcases Nat.lt_or_ge mi 263 with h19 | h19
  · have h9 := zd_g18 (mi - 257) (by omega); rwa [Nat.add_sub_cancel' (by omega : 257 ≤ mi)] at h9
  rcases Nat.lt_or_ge mi 276 with h20 | h20
  · have h9 := zd_g19 (mi - 263) (by omega); rwa [Nat.add_sub_cancel' (by omega : 263 ≤ mi)] at h9
  rcases Nat.lt_or_ge mi 284 with h21 | h21
  · have h9 := zd_g20 (mi - 276) (by omega); rwa [Nat.add_sub_cancel' (by omega : 276 ≤ mi)] at h9
  rcases Nat.lt_or_ge mi 289 with h22 | h22
  · have h9 := zd_g21 (mi - 284) (by omega); rwa [Nat.add_sub_cancel' (by omega : 284 ≤ mi)] at h9
  rcases Nat.lt_or_ge mi 294 with h23 | h23
  · have h9 := zd_g22 (mi - 289) (by omega); rwa [Nat.add_sub_cancel' (by omega : 289 ≤ mi)] at h9
  rcases Nat.lt_or_ge mi 297 with h24 | h24
  · have h9 := zd_g23 (mi - 294) (by omega); rwa [Nat.add_sub_cancel' (by omega : 294 ≤ mi)] at h9
  rcases Nat.lt_or_ge mi 301 with h25 | h25
  · have h9 := zd_g24 (mi - 297) (by omega); rwa [Nat.add_sub_cancel' (by omega : 297 ≤ mi)] at h9
  have h9 := zd_g25 (mi - 301) (by omega); rwa [Nat.add_sub_cancel' (by omega : 301 ≤ mi)] at h9
theorem zt_len : zt_m.length = 303 := by decide +kernel
theorem zd_ok {mi pc : Nat} {m : zx_M} {e : Instr × Nat} (hm : zt_m[mi]? = some m) (h : zd mi pc = some e) : decode m.2.1 pc = .ok e := by
  have hl : mi < zt_m.length := (List.getElem?_eq_some_iff.mp hm).1
  have h0 := zd_gall mi (Nat.lt_of_lt_of_eq hl zt_len)
  unfold zd at h
  simp only [Option.bind_eq_some_iff] at h
  obtain ⟨t, ht, l, hl9, h9⟩ := h
  unfold zd_g at h0
  rw [hm, ht] at h0
  have h1 := List.all_eq_true.mp h0 l (List.mem_of_getElem? hl9)
  have h2 := List.all_eq_true.mp h1 _ (zd_lf_mem h9)
  simpa using h2
