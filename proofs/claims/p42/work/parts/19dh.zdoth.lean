set_option maxRecDepth 100000 in
theorem zd_gm293_0 : zd_gmc 293 0 = true := by decide +kernel
set_option maxRecDepth 100000 in
theorem zd_gm293_1 : zd_gmc 293 1 = true := by decide +kernel
set_option maxRecDepth 100000 in
theorem zd_gm293_2 : zd_gmc 293 2 = true := by decide +kernel
set_option maxRecDepth 100000 in
theorem zd_gm293_3 : zd_gmc 293 3 = true := by decide +kernel
set_option maxRecDepth 100000 in
theorem zd_gm293_4 : zd_gmc 293 4 = true := by decide +kernel
set_option maxRecDepth 100000 in
theorem zd_gm293_5 : zd_gmc 293 5 = true := by decide +kernel
set_option maxRecDepth 100000 in
theorem zd_gm293_6 : zd_gmc 293 6 = true := by decide +kernel
set_option maxRecDepth 100000 in
theorem zd_gm293_7 : zd_gmc 293 7 = true := by decide +kernel
set_option maxRecDepth 100000 in
theorem zd_gm293_8 : zd_gmc 293 8 = true := by decide +kernel
set_option maxRecDepth 100000 in
theorem zd_gm293_9 : zd_gmc 293 9 = true := by decide +kernel
set_option maxRecDepth 100000 in
theorem zd_gm293_10 : zd_gmc 293 10 = true := by decide +kernel
set_option maxRecDepth 100000 in
theorem zd_gm293_11 : zd_gmc 293 11 = true := by decide +kernel
set_option maxRecDepth 100000 in
theorem zd_gm293_12 : zd_gmc 293 12 = true := by decide +kernel
set_option maxRecDepth 100000 in
theorem zd_gm293_13 : zd_gmc 293 13 = true := by decide +kernel
set_option maxRecDepth 100000 in
theorem zd_gm293_14 : zd_gmc 293 14 = true := by decide +kernel
set_option maxRecDepth 100000 in
theorem zd_gm293_15 : zd_gmc 293 15 = true := by decide +kernel
set_option maxRecDepth 100000 in
theorem zd_gm293_16 : zd_gmc 293 16 = true := by decide +kernel
set_option maxRecDepth 100000 in
theorem zd_gm293_17 : zd_gmc 293 17 = true := by decide +kernel
set_option maxRecDepth 100000 in
theorem zd_gm293_18 : zd_gmc 293 18 = true := by decide +kernel
set_option maxRecDepth 100000 in
theorem zd_gm293_19 : zd_gmc 293 19 = true := by decide +kernel
theorem zd_g33 : ∀ k, k < 1 → zd_g (293 + k) = true := by
  intro k hk
  obtain rfl : k = 0 := by omega
  refine zd_gm_of (n := 20) (by decide +kernel) fun c hc => ?_
  match c, hc with
  | 0, _ => exact zd_gm293_0
  | 1, _ => exact zd_gm293_1
  | 2, _ => exact zd_gm293_2
  | 3, _ => exact zd_gm293_3
  | 4, _ => exact zd_gm293_4
  | 5, _ => exact zd_gm293_5
  | 6, _ => exact zd_gm293_6
  | 7, _ => exact zd_gm293_7
  | 8, _ => exact zd_gm293_8
  | 9, _ => exact zd_gm293_9
  | 10, _ => exact zd_gm293_10
  | 11, _ => exact zd_gm293_11
  | 12, _ => exact zd_gm293_12
  | 13, _ => exact zd_gm293_13
  | 14, _ => exact zd_gm293_14
  | 15, _ => exact zd_gm293_15
  | 16, _ => exact zd_gm293_16
  | 17, _ => exact zd_gm293_17
  | 18, _ => exact zd_gm293_18
  | 19, _ => exact zd_gm293_19
  | c + 20, hc => exact absurd hc (by omega)
set_option maxRecDepth 100000 in
theorem zd_g34 : ∀ k, k < 2 → zd_g (294 + k) = true := by decide +kernel
