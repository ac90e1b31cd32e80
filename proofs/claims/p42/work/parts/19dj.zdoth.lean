set_option maxRecDepth 100000 in
theorem zd_g36 : ∀ k, k < 3 → zd_g (297 + k) = true := by decide +kernel
set_option maxRecDepth 100000 in
theorem zd_gm300_0 : zd_gmc 300 0 = true := by decide +kernel
set_option maxRecDepth 100000 in
theorem zd_gm300_1 : zd_gmc 300 1 = true := by decide +kernel
set_option maxRecDepth 100000 in
theorem zd_gm300_2 : zd_gmc 300 2 = true := by decide +kernel
set_option maxRecDepth 100000 in
theorem zd_gm300_3 : zd_gmc 300 3 = true := by decide +kernel
set_option maxRecDepth 100000 in
theorem zd_gm300_4 : zd_gmc 300 4 = true := by decide +kernel
set_option maxRecDepth 100000 in
theorem zd_gm300_5 : zd_gmc 300 5 = true := by decide +kernel
set_option maxRecDepth 100000 in
theorem zd_gm300_6 : zd_gmc 300 6 = true := by decide +kernel
set_option maxRecDepth 100000 in
theorem zd_gm300_7 : zd_gmc 300 7 = true := by decide +kernel
set_option maxRecDepth 100000 in
theorem zd_gm300_8 : zd_gmc 300 8 = true := by decide +kernel
set_option maxRecDepth 100000 in
theorem zd_gm300_9 : zd_gmc 300 9 = true := by decide +kernel
set_option maxRecDepth 100000 in
theorem zd_gm300_10 : zd_gmc 300 10 = true := by decide +kernel
set_option maxRecDepth 100000 in
theorem zd_gm300_11 : zd_gmc 300 11 = true := by decide +kernel
theorem zd_g37 : ∀ k, k < 1 → zd_g (300 + k) = true := by
  intro k hk
  obtain rfl : k = 0 := by omega
  refine zd_gm_of (n := 12) (by decide +kernel) fun c hc => ?_
  match c, hc with
  | 0, _ => exact zd_gm300_0
  | 1, _ => exact zd_gm300_1
  | 2, _ => exact zd_gm300_2
  | 3, _ => exact zd_gm300_3
  | 4, _ => exact zd_gm300_4
  | 5, _ => exact zd_gm300_5
  | 6, _ => exact zd_gm300_6
  | 7, _ => exact zd_gm300_7
  | 8, _ => exact zd_gm300_8
  | 9, _ => exact zd_gm300_9
  | 10, _ => exact zd_gm300_10
  | 11, _ => exact zd_gm300_11
  | c + 12, hc => exact absurd hc (by omega)
set_option maxRecDepth 100000 in
theorem zd_g38 : ∀ k, k < 1 → zd_g (301 + k) = true := by decide +kernel
