set_option maxRecDepth 100000 in
theorem zd_gm302_0 : zd_gmc 302 0 = true := by decide +kernel
set_option maxRecDepth 100000 in
theorem zd_gm302_1 : zd_gmc 302 1 = true := by decide +kernel
set_option maxRecDepth 100000 in
theorem zd_gm302_2 : zd_gmc 302 2 = true := by decide +kernel
set_option maxRecDepth 100000 in
theorem zd_gm302_3 : zd_gmc 302 3 = true := by decide +kernel
set_option maxRecDepth 100000 in
theorem zd_gm302_4 : zd_gmc 302 4 = true := by decide +kernel
set_option maxRecDepth 100000 in
theorem zd_gm302_5 : zd_gmc 302 5 = true := by decide +kernel
set_option maxRecDepth 100000 in
theorem zd_gm302_6 : zd_gmc 302 6 = true := by decide +kernel
set_option maxRecDepth 100000 in
theorem zd_gm302_7 : zd_gmc 302 7 = true := by decide +kernel
set_option maxRecDepth 100000 in
theorem zd_gm302_8 : zd_gmc 302 8 = true := by decide +kernel
set_option maxRecDepth 100000 in
theorem zd_gm302_9 : zd_gmc 302 9 = true := by decide +kernel
set_option maxRecDepth 100000 in
theorem zd_gm302_10 : zd_gmc 302 10 = true := by decide +kernel
set_option maxRecDepth 100000 in
theorem zd_gm302_11 : zd_gmc 302 11 = true := by decide +kernel
set_option maxRecDepth 100000 in
theorem zd_gm302_12 : zd_gmc 302 12 = true := by decide +kernel
set_option maxRecDepth 100000 in
theorem zd_gm302_13 : zd_gmc 302 13 = true := by decide +kernel
set_option maxRecDepth 100000 in
theorem zd_gm302_14 : zd_gmc 302 14 = true := by decide +kernel
set_option maxRecDepth 100000 in
theorem zd_gm302_15 : zd_gmc 302 15 = true := by decide +kernel
set_option maxRecDepth 100000 in
theorem zd_gm302_16 : zd_gmc 302 16 = true := by decide +kernel
set_option maxRecDepth 100000 in
theorem zd_gm302_17 : zd_gmc 302 17 = true := by decide +kernel
theorem zd_g39 : ∀ k, k < 1 → zd_g (302 + k) = true := by
  intro k hk
  obtain rfl : k = 0 := by omega
  refine zd_gm_of (n := 18) (by decide +kernel) fun c hc => ?_
  match c, hc with
  | 0, _ => exact zd_gm302_0
  | 1, _ => exact zd_gm302_1
  | 2, _ => exact zd_gm302_2
  | 3, _ => exact zd_gm302_3
  | 4, _ => exact zd_gm302_4
  | 5, _ => exact zd_gm302_5
  | 6, _ => exact zd_gm302_6
  | 7, _ => exact zd_gm302_7
  | 8, _ => exact zd_gm302_8
  | 9, _ => exact zd_gm302_9
  | 10, _ => exact zd_gm302_10
  | 11, _ => exact zd_gm302_11
  | 12, _ => exact zd_gm302_12
  | 13, _ => exact zd_gm302_13
  | 14, _ => exact zd_gm302_14
  | 15, _ => exact zd_gm302_15
  | 16, _ => exact zd_gm302_16
  | 17, _ => exact zd_gm302_17
  | c + 18, hc => exact absurd hc (by omega)
