set_option maxRecDepth 100000 in
theorem zd_gm262_0 : zd_gmc 262 0 = true := by decide +kernel
set_option maxRecDepth 100000 in
theorem zd_gm262_1 : zd_gmc 262 1 = true := by decide +kernel
set_option maxRecDepth 100000 in
theorem zd_gm262_2 : zd_gmc 262 2 = true := by decide +kernel
set_option maxRecDepth 100000 in
theorem zd_gm262_3 : zd_gmc 262 3 = true := by decide +kernel
set_option maxRecDepth 100000 in
theorem zd_gm262_4 : zd_gmc 262 4 = true := by decide +kernel
set_option maxRecDepth 100000 in
theorem zd_gm262_5 : zd_gmc 262 5 = true := by decide +kernel
set_option maxRecDepth 100000 in
theorem zd_gm262_6 : zd_gmc 262 6 = true := by decide +kernel
set_option maxRecDepth 100000 in
theorem zd_gm262_7 : zd_gmc 262 7 = true := by decide +kernel
set_option maxRecDepth 100000 in
theorem zd_gm262_8 : zd_gmc 262 8 = true := by decide +kernel
set_option maxRecDepth 100000 in
theorem zd_gm262_9 : zd_gmc 262 9 = true := by decide +kernel
set_option maxRecDepth 100000 in
theorem zd_gm262_10 : zd_gmc 262 10 = true := by decide +kernel
set_option maxRecDepth 100000 in
theorem zd_gm262_11 : zd_gmc 262 11 = true := by decide +kernel
set_option maxRecDepth 100000 in
theorem zd_gm262_12 : zd_gmc 262 12 = true := by decide +kernel
set_option maxRecDepth 100000 in
theorem zd_gm262_13 : zd_gmc 262 13 = true := by decide +kernel
set_option maxRecDepth 100000 in
theorem zd_gm262_14 : zd_gmc 262 14 = true := by decide +kernel
set_option maxRecDepth 100000 in
theorem zd_gm262_15 : zd_gmc 262 15 = true := by decide +kernel
theorem zd_g26 : ∀ k, k < 1 → zd_g (262 + k) = true := by
  intro k hk
  obtain rfl : k = 0 := by omega
  refine zd_gm_of (n := 16) (by decide +kernel) fun c hc => ?_
  match c, hc with
  | 0, _ => exact zd_gm262_0
  | 1, _ => exact zd_gm262_1
  | 2, _ => exact zd_gm262_2
  | 3, _ => exact zd_gm262_3
  | 4, _ => exact zd_gm262_4
  | 5, _ => exact zd_gm262_5
  | 6, _ => exact zd_gm262_6
  | 7, _ => exact zd_gm262_7
  | 8, _ => exact zd_gm262_8
  | 9, _ => exact zd_gm262_9
  | 10, _ => exact zd_gm262_10
  | 11, _ => exact zd_gm262_11
  | 12, _ => exact zd_gm262_12
  | 13, _ => exact zd_gm262_13
  | 14, _ => exact zd_gm262_14
  | 15, _ => exact zd_gm262_15
  | c + 16, hc => exact absurd hc (by omega)
set_option maxRecDepth 100000 in
theorem zd_g27 : ∀ k, k < 10 → zd_g (263 + k) = true := by decide +kernel
set_option maxRecDepth 100000 in
theorem zd_g28 : ∀ k, k < 10 → zd_g (273 + k) = true := by decide +kernel
