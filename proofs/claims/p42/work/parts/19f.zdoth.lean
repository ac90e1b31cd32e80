theorem zd_gall (mi : Nat) (h : mi < 303) : zd_g mi = true := by
  rcases Nat.eq_zero_or_pos mi with h0 | h0
  · rw [h0]; exact zd_g_law
  rcases Nat.lt_or_ge mi 13 with h1 | h1
  · have h9 := zd_g0 (mi - 1) (by omega); rwa [Nat.add_sub_cancel' (by omega : 1 ≤ mi)] at h9
  rcases Nat.lt_or_ge mi 21 with h2 | h2
  · have h9 := zd_g1 (mi - 13) (by omega); rwa [Nat.add_sub_cancel' (by omega : 13 ≤ mi)] at h9
  rcases Nat.lt_or_ge mi 22 with h3 | h3
  · have h9 := zd_g2 (mi - 21) (by omega); rwa [Nat.add_sub_cancel' (by omega : 21 ≤ mi)] at h9
  rcases Nat.lt_or_ge mi 33 with h4 | h4
  · have h9 := zd_g3 (mi - 22) (by omega); rwa [Nat.add_sub_cancel' (by omega : 22 ≤ mi)] at h9
  rcases Nat.lt_or_ge mi 47 with h5 | h5
  · have h9 := zd_g4 (mi - 33) (by omega); rwa [Nat.add_sub_cancel' (by omega : 33 ≤ mi)] at h9
  rcases Nat.lt_or_ge mi 59 with h6 | h6
  · have h9 := zd_g5 (mi - 47) (by omega); rwa [Nat.add_sub_cancel' (by omega : 47 ≤ mi)] at h9
  rcases Nat.lt_or_ge mi 70 with h7 | h7
  · have h9 := zd_g6 (mi - 59) (by omega); rwa [Nat.add_sub_cancel' (by omega : 59 ≤ mi)] at h9
  rcases Nat.lt_or_ge mi 79 with h8 | h8
  · have h9 := zd_g7 (mi - 70) (by omega); rwa [Nat.add_sub_cancel' (by omega : 70 ≤ mi)] at h9
  rcases Nat.lt_or_ge mi 85 with h9 | h9
  · have h9 := zd_g8 (mi - 79) (by omega); rwa [Nat.add_sub_cancel' (by omega : 79 ≤ mi)] at h9
  rcases Nat.lt_or_ge mi 96 with h10 | h10
  · have h9 := zd_g9 (mi - 85) (by omega); rwa [Nat.add_sub_cancel' (by omega : 85 ≤ mi)] at h9
  rcases Nat.lt_or_ge mi 107 with h11 | h11
  · have h9 := zd_g10 (mi - 96) (by omega); rwa [Nat.add_sub_cancel' (by omega : 96 ≤ mi)] at h9
  rcases Nat.lt_or_ge mi 116 with h12 | h12
  · have h9 := zd_g11 (mi - 107) (by omega); rwa [Nat.add_sub_cancel' (by omega : 107 ≤ mi)] at h9
  rcases Nat.lt_or_ge mi 125 with h13 | h13
  · have h9 := zd_g12 (mi - 116) (by omega); rwa [Nat.add_sub_cancel' (by omega : 116 ≤ mi)] at h9
  rcases Nat.lt_or_ge mi 133 with h14 | h14
  · have h9 := zd_g13 (mi - 125) (by omega); rwa [Nat.add_sub_cancel' (by omega : 125 ≤ mi)] at h9
  rcases Nat.lt_or_ge mi 159 with h15 | h15
  · have h9 := zd_g14 (mi - 133) (by omega); rwa [Nat.add_sub_cancel' (by omega : 133 ≤ mi)] at h9
  rcases Nat.lt_or_ge mi 170 with h16 | h16
  · have h9 := zd_g15 (mi - 159) (by omega); rwa [Nat.add_sub_cancel' (by omega : 159 ≤ mi)] at h9
  rcases Nat.lt_or_ge mi 196 with h17 | h17
  · have h9 := zd_g16 (mi - 170) (by omega); rwa [Nat.add_sub_cancel' (by omega : 170 ≤ mi)] at h9
  rcases Nat.lt_or_ge mi 197 with h18 | h18
  · have h9 := zd_g17 (mi - 196) (by omega); rwa [Nat.add_sub_cancel' (by omega : 196 ≤ mi)] at h9
  rcases Nat.lt_or_ge mi 203 with h19 | h19
  · have h9 := zd_g18 (mi - 197) (by omega); rwa [Nat.add_sub_cancel' (by omega : 197 ≤ mi)] at h9
  rcases Nat.lt_or_ge mi 204 with h20 | h20
  · have h9 := zd_g19 (mi - 203) (by omega); rwa [Nat.add_sub_cancel' (by omega : 203 ≤ mi)] at h9
  rcases Nat.lt_or_ge mi 214 with h21 | h21
  · have h9 := zd_g20 (mi - 204) (by omega); rwa [Nat.add_sub_cancel' (by omega : 204 ≤ mi)] at h9
  rcases Nat.lt_or_ge mi 248 with h22 | h22
  · have h9 := zd_g21 (mi - 214) (by omega); rwa [Nat.add_sub_cancel' (by omega : 214 ≤ mi)] at h9
  rcases Nat.lt_or_ge mi 254 with h23 | h23
  · have h9 := zd_g22 (mi - 248) (by omega); rwa [Nat.add_sub_cancel' (by omega : 248 ≤ mi)] at h9
  rcases Nat.lt_or_ge mi 256 with h24 | h24
  · have h9 := zd_g23 (mi - 254) (by omega); rwa [Nat.add_sub_cancel' (by omega : 254 ≤ mi)] at h9
  rcases Nat.lt_or_ge mi 257 with h25 | h25
  · have h9 := zd_g24 (mi - 256) (by omega); rwa [Nat.add_sub_cancel' (by omega : 256 ≤ mi)] at h9
  rcases Nat.lt_or_ge mi 262 with h26 | h26
  · have h9 := zd_g25 (mi - 257) (by omega); rwa [Nat.add_sub_cancel' (by omega : 257 ≤ mi)] at h9
  rcases Nat.lt_or_ge mi 263 with h27 | h27
  · have h9 := zd_g26 (mi - 262) (by omega); rwa [Nat.add_sub_cancel' (by omega : 262 ≤ mi)] at h9
  rcases Nat.lt_or_ge mi 273 with h28 | h28
  · have h9 := zd_g27 (mi - 263) (by omega); rwa [Nat.add_sub_cancel' (by omega : 263 ≤ mi)] at h9
  rcases Nat.lt_or_ge mi 283 with h29 | h29
  · have h9 := zd_g28 (mi - 273) (by omega); rwa [Nat.add_sub_cancel' (by omega : 273 ≤ mi)] at h9
  rcases Nat.lt_or_ge mi 284 with h30 | h30
  · have h9 := zd_g29 (mi - 283) (by omega); rwa [Nat.add_sub_cancel' (by omega : 283 ≤ mi)] at h9
  rcases Nat.lt_or_ge mi 285 with h31 | h31
  · have h9 := zd_g30 (mi - 284) (by omega); rwa [Nat.add_sub_cancel' (by omega : 284 ≤ mi)] at h9
  rcases Nat.lt_or_ge mi 292 with h32 | h32
  · have h9 := zd_g31 (mi - 285) (by omega); rwa [Nat.add_sub_cancel' (by omega : 285 ≤ mi)] at h9
  rcases Nat.lt_or_ge mi 293 with h33 | h33
  · have h9 := zd_g32 (mi - 292) (by omega); rwa [Nat.add_sub_cancel' (by omega : 292 ≤ mi)] at h9
  rcases Nat.lt_or_ge mi 294 with h34 | h34
  · have h9 := zd_g33 (mi - 293) (by omega); rwa [Nat.add_sub_cancel' (by omega : 293 ≤ mi)] at h9
  rcases Nat.lt_or_ge mi 296 with h35 | h35
  · have h9 := zd_g34 (mi - 294) (by omega); rwa [Nat.add_sub_cancel' (by omega : 294 ≤ mi)] at h9
  rcases Nat.lt_or_ge mi 297 with h36 | h36
  · have h9 := zd_g35 (mi - 296) (by omega); rwa [Nat.add_sub_cancel' (by omega : 296 ≤ mi)] at h9
  rcases Nat.lt_or_ge mi 300 with h37 | h37
  · have h9 := zd_g36 (mi - 297) (by omega); rwa [Nat.add_sub_cancel' (by omega : 297 ≤ mi)] at h9
  rcases Nat.lt_or_ge mi 301 with h38 | h38
  · have h9 := zd_g37 (mi - 300) (by omega); rwa [Nat.add_sub_cancel' (by omega : 300 ≤ mi)] at h9
  rcases Nat.lt_or_ge mi 302 with h39 | h39
  · have h9 := zd_g38 (mi - 301) (by omega); rwa [Nat.add_sub_cancel' (by omega : 301 ≤ mi)] at h9
  have h9 := zd_g39 (mi - 302) (by omega); rwa [Nat.add_sub_cancel' (by omega : 302 ≤ mi)] at h9
set_option maxRecDepth 100000 in
theorem zt_len : zt_m.length = 303 := rfl
theorem zd_ok {mi pc : Nat} {m : zx_M} {e : Instr × Nat} (hm : zt_m[mi]? = some m) (h : zd mi pc = some e) : decode m.2.1 pc = .ok e := by
  have hl : mi < zt_m.length := (List.getElem?_eq_some_iff.mp hm).1
  have h0 := zd_gall mi (Nat.lt_of_lt_of_eq hl zt_len)
  unfold zd at h
  simp only [Option.bind_eq_some_iff] at h
  obtain ⟨t, ht, l, hl9, h9⟩ := h
  unfold zd_g at h0
  rw [hm, ht] at h0
  have h1 := List.all_eq_true.mp h0 l (List.mem_of_getElem? hl9)
  have h2 := List.all_eq_true.mp h1 _ (zd_lf_mem h9)
  simpa using h2
