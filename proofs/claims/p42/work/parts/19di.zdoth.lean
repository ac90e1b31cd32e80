set_option maxRecDepth 100000 in
theorem zd_gm296_0 : zd_gmc 296 0 = true := by decide +kernel
set_option maxRecDepth 100000 in
theorem zd_gm296_1 : zd_gmc 296 1 = true := by decide +kernel
set_option maxRecDepth 100000 in
theorem zd_gm296_2 : zd_gmc 296 2 = true := by decide +kernel
set_option maxRecDepth 100000 in
theorem zd_gm296_3 : zd_gmc 296 3 = true := by decide +kernel
set_option maxRecDepth 100000 in
theorem zd_gm296_4 : zd_gmc 296 4 = true := by decide +kernel
set_option maxRecDepth 100000 in
theorem zd_gm296_5 : zd_gmc 296 5 = true := by decide +kernel
set_option maxRecDepth 100000 in
theorem zd_gm296_6 : zd_gmc 296 6 = true := by decide +kernel
set_option maxRecDepth 100000 in
theorem zd_gm296_7 : zd_gmc 296 7 = true := by decide +kernel
set_option maxRecDepth 100000 in
theorem zd_gm296_8 : zd_gmc 296 8 = true := by decide +kernel
set_option maxRecDepth 100000 in
theorem zd_gm296_9 : zd_gmc 296 9 = true := by decide +kernel
set_option maxRecDepth 100000 in
theorem zd_gm296_10 : zd_gmc 296 10 = true := by decide +kernel
set_option maxRecDepth 100000 in
theorem zd_gm296_11 : zd_gmc 296 11 = true := by decide +kernel
set_option maxRecDepth 100000 in
theorem zd_gm296_12 : zd_gmc 296 12 = true := by decide +kernel
set_option maxRecDepth 100000 in
theorem zd_gm296_13 : zd_gmc 296 13 = true := by decide +kernel
set_option maxRecDepth 100000 in
theorem zd_gm296_14 : zd_gmc 296 14 = true := by decide +kernel
set_option maxRecDepth 100000 in
theorem zd_gm296_15 : zd_gmc 296 15 = true := by decide +kernel
set_option maxRecDepth 100000 in
theorem zd_gm296_16 : zd_gmc 296 16 = true := by decide +kernel
set_option maxRecDepth 100000 in
theorem zd_gm296_17 : zd_gmc 296 17 = true := by decide +kernel
set_option maxRecDepth 100000 in
theorem zd_gm296_18 : zd_gmc 296 18 = true := by decide +kernel
set_option maxRecDepth 100000 in
theorem zd_gm296_19 : zd_gmc 296 19 = true := by decide +kernel
set_option maxRecDepth 100000 in
theorem zd_gm296_20 : zd_gmc 296 20 = true := by decide +kernel
set_option maxRecDepth 100000 in
theorem zd_gm296_21 : zd_gmc 296 21 = true := by decide +kernel
set_option maxRecDepth 100000 in
theorem zd_gm296_22 : zd_gmc 296 22 = true := by decide +kernel
set_option maxRecDepth 100000 in
theorem zd_gm296_23 : zd_gmc 296 23 = true := by decide +kernel
set_option maxRecDepth 100000 in
theorem zd_gm296_24 : zd_gmc 296 24 = true := by decide +kernel
set_option maxRecDepth 100000 in
theorem zd_gm296_25 : zd_gmc 296 25 = true := by decide +kernel
set_option maxRecDepth 100000 in
theorem zd_gm296_26 : zd_gmc 296 26 = true := by decide +kernel
set_option maxRecDepth 100000 in
theorem zd_gm296_27 : zd_gmc 296 27 = true := by decide +kernel
theorem zd_g35 : ∀ k, k < 1 → zd_g (296 + k) = true := by
  intro k hk
  obtain rfl : k = 0 := by omega
  refine zd_gm_of (n := 28) (by decide +kernel) fun c hc => ?_
  match c, hc with
  | 0, _ => exact zd_gm296_0
  | 1, _ => exact zd_gm296_1
  | 2, _ => exact zd_gm296_2
  | 3, _ => exact zd_gm296_3
  | 4, _ => exact zd_gm296_4
  | 5, _ => exact zd_gm296_5
  | 6, _ => exact zd_gm296_6
  | 7, _ => exact zd_gm296_7
  | 8, _ => exact zd_gm296_8
  | 9, _ => exact zd_gm296_9
  | 10, _ => exact zd_gm296_10
  | 11, _ => exact zd_gm296_11
  | 12, _ => exact zd_gm296_12
  | 13, _ => exact zd_gm296_13
  | 14, _ => exact zd_gm296_14
  | 15, _ => exact zd_gm296_15
  | 16, _ => exact zd_gm296_16
  | 17, _ => exact zd_gm296_17
  | 18, _ => exact zd_gm296_18
  | 19, _ => exact zd_gm296_19
  | 20, _ => exact zd_gm296_20
  | 21, _ => exact zd_gm296_21
  | 22, _ => exact zd_gm296_22
  | 23, _ => exact zd_gm296_23
  | 24, _ => exact zd_gm296_24
  | 25, _ => exact zd_gm296_25
  | 26, _ => exact zd_gm296_26
  | 27, _ => exact zd_gm296_27
  | c + 28, hc => exact absurd hc (by omega)
