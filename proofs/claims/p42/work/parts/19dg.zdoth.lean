set_option maxRecDepth 100000 in
theorem zd_gm284_0 : zd_gmc 284 0 = true := by decide +kernel
set_option maxRecDepth 100000 in
theorem zd_gm284_1 : zd_gmc 284 1 = true := by decide +kernel
set_option maxRecDepth 100000 in
theorem zd_gm284_2 : zd_gmc 284 2 = true := by decide +kernel
set_option maxRecDepth 100000 in
theorem zd_gm284_3 : zd_gmc 284 3 = true := by decide +kernel
set_option maxRecDepth 100000 in
theorem zd_gm284_4 : zd_gmc 284 4 = true := by decide +kernel
set_option maxRecDepth 100000 in
theorem zd_gm284_5 : zd_gmc 284 5 = true := by decide +kernel
set_option maxRecDepth 100000 in
theorem zd_gm284_6 : zd_gmc 284 6 = true := by decide +kernel
set_option maxRecDepth 100000 in
theorem zd_gm284_7 : zd_gmc 284 7 = true := by decide +kernel
set_option maxRecDepth 100000 in
theorem zd_gm284_8 : zd_gmc 284 8 = true := by decide +kernel
set_option maxRecDepth 100000 in
theorem zd_gm284_9 : zd_gmc 284 9 = true := by decide +kernel
set_option maxRecDepth 100000 in
theorem zd_gm284_10 : zd_gmc 284 10 = true := by decide +kernel
theorem zd_g30 : ∀ k, k < 1 → zd_g (284 + k) = true := by
  intro k hk
  obtain rfl : k = 0 := by omega
  refine zd_gm_of (n := 11) (by decide +kernel) fun c hc => ?_
  match c, hc with
  | 0, _ => exact zd_gm284_0
  | 1, _ => exact zd_gm284_1
  | 2, _ => exact zd_gm284_2
  | 3, _ => exact zd_gm284_3
  | 4, _ => exact zd_gm284_4
  | 5, _ => exact zd_gm284_5
  | 6, _ => exact zd_gm284_6
  | 7, _ => exact zd_gm284_7
  | 8, _ => exact zd_gm284_8
  | 9, _ => exact zd_gm284_9
  | 10, _ => exact zd_gm284_10
  | c + 11, hc => exact absurd hc (by omega)
set_option maxRecDepth 100000 in
theorem zd_g31 : ∀ k, k < 7 → zd_g (285 + k) = true := by decide +kernel
set_option maxRecDepth 100000 in
theorem zd_g32 : ∀ k, k < 1 → zd_g (292 + k) = true := by decide +kernel
