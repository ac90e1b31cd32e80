set_option maxRecDepth 100000 in
theorem zd_g21 : ∀ k, k < 34 → zd_g (214 + k) = true := by decide +kernel
set_option maxRecDepth 100000 in
theorem zd_g22 : ∀ k, k < 6 → zd_g (248 + k) = true := by decide +kernel
set_option maxRecDepth 100000 in
theorem zd_g23 : ∀ k, k < 2 → zd_g (254 + k) = true := by decide +kernel
set_option maxRecDepth 100000 in
theorem zd_gm256_0 : zd_gmc 256 0 = true := by decide +kernel
set_option maxRecDepth 100000 in
theorem zd_gm256_1 : zd_gmc 256 1 = true := by decide +kernel
set_option maxRecDepth 100000 in
theorem zd_gm256_2 : zd_gmc 256 2 = true := by decide +kernel
set_option maxRecDepth 100000 in
theorem zd_gm256_3 : zd_gmc 256 3 = true := by decide +kernel
set_option maxRecDepth 100000 in
theorem zd_gm256_4 : zd_gmc 256 4 = true := by decide +kernel
set_option maxRecDepth 100000 in
theorem zd_gm256_5 : zd_gmc 256 5 = true := by decide +kernel
set_option maxRecDepth 100000 in
theorem zd_gm256_6 : zd_gmc 256 6 = true := by decide +kernel
set_option maxRecDepth 100000 in
theorem zd_gm256_7 : zd_gmc 256 7 = true := by decide +kernel
set_option maxRecDepth 100000 in
theorem zd_gm256_8 : zd_gmc 256 8 = true := by decide +kernel
set_option maxRecDepth 100000 in
theorem zd_gm256_9 : zd_gmc 256 9 = true := by decide +kernel
set_option maxRecDepth 100000 in
theorem zd_gm256_10 : zd_gmc 256 10 = true := by decide +kernel
set_option maxRecDepth 100000 in
theorem zd_gm256_11 : zd_gmc 256 11 = true := by decide +kernel
set_option maxRecDepth 100000 in
theorem zd_gm256_12 : zd_gmc 256 12 = true := by decide +kernel
set_option maxRecDepth 100000 in
theorem zd_gm256_13 : zd_gmc 256 13 = true := by decide +kernel
theorem zd_g24 : ∀ k, k < 1 → zd_g (256 + k) = true := by
  intro k hk
  obtain rfl : k = 0 := by omega
  refine zd_gm_of (n := 14) (by decide +kernel) fun c hc => ?_
  match c, hc with
  | 0, _ => exact zd_gm256_0
  | 1, _ => exact zd_gm256_1
  | 2, _ => exact zd_gm256_2
  | 3, _ => exact zd_gm256_3
  | 4, _ => exact zd_gm256_4
  | 5, _ => exact zd_gm256_5
  | 6, _ => exact zd_gm256_6
  | 7, _ => exact zd_gm256_7
  | 8, _ => exact zd_gm256_8
  | 9, _ => exact zd_gm256_9
  | 10, _ => exact zd_gm256_10
  | 11, _ => exact zd_gm256_11
  | 12, _ => exact zd_gm256_12
  | 13, _ => exact zd_gm256_13
  | c + 14, hc => exact absurd hc (by omega)
set_option maxRecDepth 100000 in
theorem zd_g25 : ∀ k, k < 5 → zd_g (257 + k) = true := by decide +kernel
