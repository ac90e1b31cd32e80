noncomputable def zd_gmc (mi c : Nat) : Bool := match zt_m[mi]?, zd_of mi with
  | some m, some t => match t[c]? with
    | some l => l.all fun e => decide (decode m.2.1 e.1 = .ok e.2)
    | none => true
  | _, _ => true
theorem zd_gm_of {mi n : Nat} (hl : (zd_of mi).all (fun t => decide (t.length ≤ n)) = true) (h : ∀ c, c < n → zd_gmc mi c = true) : zd_g mi = true := by
  unfold zd_g
  split
  · next m t hm ht =>
    rw [ht] at hl
    have hl : t.length ≤ n := by simpa using hl
    refine List.all_eq_true.mpr fun l hmem => ?_
    obtain ⟨c, hc⟩ := List.mem_iff_getElem?.mp hmem
    have h3 := h c (Nat.lt_of_lt_of_le (List.getElem?_eq_some_iff.mp hc).1 hl)
    unfold zd_gmc at h3
    rw [hm, ht] at h3
    dsimp only at h3
    rw [hc] at h3
    exact h3
  · rfl
set_option maxRecDepth 100000 in
theorem zd_g0 : ∀ k, k < 12 → zd_g (1 + k) = true := by decide +kernel
set_option maxRecDepth 100000 in
theorem zd_g1 : ∀ k, k < 8 → zd_g (13 + k) = true := by decide +kernel
set_option maxRecDepth 100000 in
theorem zd_gm21_0 : zd_gmc 21 0 = true := by decide +kernel
set_option maxRecDepth 100000 in
theorem zd_gm21_1 : zd_gmc 21 1 = true := by decide +kernel
set_option maxRecDepth 100000 in
theorem zd_gm21_2 : zd_gmc 21 2 = true := by decide +kernel
set_option maxRecDepth 100000 in
theorem zd_gm21_3 : zd_gmc 21 3 = true := by decide +kernel
set_option maxRecDepth 100000 in
theorem zd_gm21_4 : zd_gmc 21 4 = true := by decide +kernel
set_option maxRecDepth 100000 in
theorem zd_gm21_5 : zd_gmc 21 5 = true := by decide +kernel
set_option maxRecDepth 100000 in
theorem zd_gm21_6 : zd_gmc 21 6 = true := by decide +kernel
set_option maxRecDepth 100000 in
theorem zd_gm21_7 : zd_gmc 21 7 = true := by decide +kernel
set_option maxRecDepth 100000 in
theorem zd_gm21_8 : zd_gmc 21 8 = true := by decide +kernel
set_option maxRecDepth 100000 in
theorem zd_gm21_9 : zd_gmc 21 9 = true := by decide +kernel
set_option maxRecDepth 100000 in
theorem zd_gm21_10 : zd_gmc 21 10 = true := by decide +kernel
theorem zd_g2 : ∀ k, k < 1 → zd_g (21 + k) = true := by
  intro k hk
  obtain rfl : k = 0 := by omega
  refine zd_gm_of (n := 11) (by decide +kernel) fun c hc => ?_
  match c, hc with
  | 0, _ => exact zd_gm21_0
  | 1, _ => exact zd_gm21_1
  | 2, _ => exact zd_gm21_2
  | 3, _ => exact zd_gm21_3
  | 4, _ => exact zd_gm21_4
  | 5, _ => exact zd_gm21_5
  | 6, _ => exact zd_gm21_6
  | 7, _ => exact zd_gm21_7
  | 8, _ => exact zd_gm21_8
  | 9, _ => exact zd_gm21_9
  | 10, _ => exact zd_gm21_10
  | c + 11, hc => exact absurd hc (by omega)
set_option maxRecDepth 100000 in
theorem zd_g3 : ∀ k, k < 11 → zd_g (22 + k) = true := by decide +kernel
set_option maxRecDepth 100000 in
theorem zd_g4 : ∀ k, k < 14 → zd_g (33 + k) = true := by decide +kernel
set_option maxRecDepth 100000 in
theorem zd_g5 : ∀ k, k < 12 → zd_g (47 + k) = true := by decide +kernel
set_option maxRecDepth 100000 in
theorem zd_g6 : ∀ k, k < 11 → zd_g (59 + k) = true := by decide +kernel
set_option maxRecDepth 100000 in
theorem zd_g7 : ∀ k, k < 9 → zd_g (70 + k) = true := by decide +kernel
set_option maxRecDepth 100000 in
theorem zd_g8 : ∀ k, k < 6 → zd_g (79 + k) = true := by decide +kernel
set_option maxRecDepth 100000 in
theorem zd_g9 : ∀ k, k < 11 → zd_g (85 + k) = true := by decide +kernel
